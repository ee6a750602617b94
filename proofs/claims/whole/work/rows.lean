section
-- ===== PART A: goes FIRST, ahead of the names: the tables' words, and 'selects' of the private methods out of them =====
/-- a private method of a class that the tables say can be made, by its rows of tables_1 -/
def lw_okq (q : MethodName × Nat) : Prop := (q.1.cls ≠ "java/lang/invoke/MethodHandle" ∧ q.1.cls ≠ "java/lang/invoke/VarHandle") ∧ Cond.instantiable q.1.cls q.2 ∈ tables_1 ∧ Cond.privateMethod q.1 ∈ tables_1 ∧ Cond.instanceMethod q.1 ∈ tables_1
theorem lw_p0 : lw_okq (⟨"MiddleOfCourt$Tape", "next", "()V"⟩, 8) := ⟨⟨by decide +kernel, by decide +kernel⟩, List.mem_of_getElem? (i := 32) (by decide +kernel), List.mem_of_getElem? (i := 162) (by decide +kernel), List.mem_of_getElem? (i := 163) (by decide +kernel)⟩
theorem lw_p1 : lw_okq (⟨"MiddleOfCourt$Tape", "letterAt", "(I)I"⟩, 8) := ⟨⟨by decide +kernel, by decide +kernel⟩, List.mem_of_getElem? (i := 32) (by decide +kernel), List.mem_of_getElem? (i := 166) (by decide +kernel), List.mem_of_getElem? (i := 167) (by decide +kernel)⟩
theorem lw_p2 : lw_okq (⟨"MiddleOfCourt$Tape", "nextWord", "()V"⟩, 8) := ⟨⟨by decide +kernel, by decide +kernel⟩, List.mem_of_getElem? (i := 32) (by decide +kernel), List.mem_of_getElem? (i := 173) (by decide +kernel), List.mem_of_getElem? (i := 174) (by decide +kernel)⟩
theorem lw_p3 : lw_okq (⟨"MiddleOfCourt$Tape", "nameOfWord", "()I"⟩, 8) := ⟨⟨by decide +kernel, by decide +kernel⟩, List.mem_of_getElem? (i := 32) (by decide +kernel), List.mem_of_getElem? (i := 177) (by decide +kernel), List.mem_of_getElem? (i := 178) (by decide +kernel)⟩
theorem lw_p4 : lw_okq (⟨"MiddleOfCourt$Tape", "isWord", "(Ljava/lang/String;)Z"⟩, 8) := ⟨⟨by decide +kernel, by decide +kernel⟩, List.mem_of_getElem? (i := 32) (by decide +kernel), List.mem_of_getElem? (i := 182) (by decide +kernel), List.mem_of_getElem? (i := 183) (by decide +kernel)⟩
theorem lw_p5 : lw_okq (⟨"MiddleOfCourt$Tape", "keyOfWord", "()I"⟩, 8) := ⟨⟨by decide +kernel, by decide +kernel⟩, List.mem_of_getElem? (i := 32) (by decide +kernel), List.mem_of_getElem? (i := 191) (by decide +kernel), List.mem_of_getElem? (i := 192) (by decide +kernel)⟩
theorem lw_p6 : lw_okq (⟨"MiddleOfCourt$Tape", "nextNumber", "()V"⟩, 8) := ⟨⟨by decide +kernel, by decide +kernel⟩, List.mem_of_getElem? (i := 32) (by decide +kernel), List.mem_of_getElem? (i := 204) (by decide +kernel), List.mem_of_getElem? (i := 205) (by decide +kernel)⟩
theorem lw_p7 : lw_okq (⟨"MiddleOfCourt$Tape", "expect", "(I)V"⟩, 8) := ⟨⟨by decide +kernel, by decide +kernel⟩, List.mem_of_getElem? (i := 32) (by decide +kernel), List.mem_of_getElem? (i := 211) (by decide +kernel), List.mem_of_getElem? (i := 212) (by decide +kernel)⟩
theorem lw_p8 : lw_okq (⟨"MiddleOfCourt$Tape", "fail", "()V"⟩, 8) := ⟨⟨by decide +kernel, by decide +kernel⟩, List.mem_of_getElem? (i := 32) (by decide +kernel), List.mem_of_getElem? (i := 215) (by decide +kernel), List.mem_of_getElem? (i := 216) (by decide +kernel)⟩
theorem lw_p9 : lw_okq (⟨"MiddleOfCourt$Tape", "readEither", "(I)V"⟩, 8) := ⟨⟨by decide +kernel, by decide +kernel⟩, List.mem_of_getElem? (i := 32) (by decide +kernel), List.mem_of_getElem? (i := 219) (by decide +kernel), List.mem_of_getElem? (i := 220) (by decide +kernel)⟩
theorem lw_p10 : lw_okq (⟨"MiddleOfCourt$Tape", "readBoth", "(I)V"⟩, 8) := ⟨⟨by decide +kernel, by decide +kernel⟩, List.mem_of_getElem? (i := 32) (by decide +kernel), List.mem_of_getElem? (i := 223) (by decide +kernel), List.mem_of_getElem? (i := 224) (by decide +kernel)⟩
theorem lw_p11 : lw_okq (⟨"MiddleOfCourt$Tape", "readNot", "(I)V"⟩, 8) := ⟨⟨by decide +kernel, by decide +kernel⟩, List.mem_of_getElem? (i := 32) (by decide +kernel), List.mem_of_getElem? (i := 227) (by decide +kernel), List.mem_of_getElem? (i := 228) (by decide +kernel)⟩
theorem lw_p12 : lw_okq (⟨"MiddleOfCourt$Tape", "opens", "(I)Z"⟩, 8) := ⟨⟨by decide +kernel, by decide +kernel⟩, List.mem_of_getElem? (i := 32) (by decide +kernel), List.mem_of_getElem? (i := 231) (by decide +kernel), List.mem_of_getElem? (i := 232) (by decide +kernel)⟩
theorem lw_p13 : lw_okq (⟨"MiddleOfCourt$Tape", "emit", "(I)V"⟩, 8) := ⟨⟨by decide +kernel, by decide +kernel⟩, List.mem_of_getElem? (i := 32) (by decide +kernel), List.mem_of_getElem? (i := 235) (by decide +kernel), List.mem_of_getElem? (i := 236) (by decide +kernel)⟩
theorem lw_p14 : lw_okq (⟨"MiddleOfCourt$Tape", "readSum", "(I)V"⟩, 8) := ⟨⟨by decide +kernel, by decide +kernel⟩, List.mem_of_getElem? (i := 32) (by decide +kernel), List.mem_of_getElem? (i := 243) (by decide +kernel), List.mem_of_getElem? (i := 244) (by decide +kernel)⟩
theorem lw_p15 : lw_okq (⟨"MiddleOfCourt$Tape", "readTerm", "(I)V"⟩, 8) := ⟨⟨by decide +kernel, by decide +kernel⟩, List.mem_of_getElem? (i := 32) (by decide +kernel), List.mem_of_getElem? (i := 247) (by decide +kernel), List.mem_of_getElem? (i := 248) (by decide +kernel)⟩
def lw_privs_1 : List (MethodName × Nat) := [(⟨"MiddleOfCourt$Tape", "next", "()V"⟩, 8), (⟨"MiddleOfCourt$Tape", "letterAt", "(I)I"⟩, 8), (⟨"MiddleOfCourt$Tape", "nextWord", "()V"⟩, 8), (⟨"MiddleOfCourt$Tape", "nameOfWord", "()I"⟩, 8), (⟨"MiddleOfCourt$Tape", "isWord", "(Ljava/lang/String;)Z"⟩, 8), (⟨"MiddleOfCourt$Tape", "keyOfWord", "()I"⟩, 8), (⟨"MiddleOfCourt$Tape", "nextNumber", "()V"⟩, 8), (⟨"MiddleOfCourt$Tape", "expect", "(I)V"⟩, 8), (⟨"MiddleOfCourt$Tape", "fail", "()V"⟩, 8), (⟨"MiddleOfCourt$Tape", "readEither", "(I)V"⟩, 8), (⟨"MiddleOfCourt$Tape", "readBoth", "(I)V"⟩, 8), (⟨"MiddleOfCourt$Tape", "readNot", "(I)V"⟩, 8), (⟨"MiddleOfCourt$Tape", "opens", "(I)Z"⟩, 8), (⟨"MiddleOfCourt$Tape", "emit", "(I)V"⟩, 8), (⟨"MiddleOfCourt$Tape", "readSum", "(I)V"⟩, 8), (⟨"MiddleOfCourt$Tape", "readTerm", "(I)V"⟩, 8)]
theorem lw_r1 : ∀ q ∈ lw_privs_1, lw_okq q := List.forall_mem_cons.mpr ⟨lw_p0, List.forall_mem_cons.mpr ⟨lw_p1, List.forall_mem_cons.mpr ⟨lw_p2, List.forall_mem_cons.mpr ⟨lw_p3, List.forall_mem_cons.mpr ⟨lw_p4, List.forall_mem_cons.mpr ⟨lw_p5, List.forall_mem_cons.mpr ⟨lw_p6, List.forall_mem_cons.mpr ⟨lw_p7, List.forall_mem_cons.mpr ⟨lw_p8, List.forall_mem_cons.mpr ⟨lw_p9, List.forall_mem_cons.mpr ⟨lw_p10, List.forall_mem_cons.mpr ⟨lw_p11, List.forall_mem_cons.mpr ⟨lw_p12, List.forall_mem_cons.mpr ⟨lw_p13, List.forall_mem_cons.mpr ⟨lw_p14, List.forall_mem_cons.mpr ⟨lw_p15, fun _ h => absurd h List.not_mem_nil⟩⟩⟩⟩⟩⟩⟩⟩⟩⟩⟩⟩⟩⟩⟩⟩
theorem lw_p16 : lw_okq (⟨"MiddleOfCourt$Tape", "readOne", "(I)V"⟩, 8) := ⟨⟨by decide +kernel, by decide +kernel⟩, List.mem_of_getElem? (i := 32) (by decide +kernel), List.mem_of_getElem? (i := 251) (by decide +kernel), List.mem_of_getElem? (i := 252) (by decide +kernel)⟩
theorem lw_p17 : lw_okq (⟨"MiddleOfCourt", "strokeAt", "(I)LMiddleOfCourt$Stroke;"⟩, 19) := ⟨⟨by decide +kernel, by decide +kernel⟩, List.mem_of_getElem? (i := 22) (by decide +kernel), List.mem_of_getElem? (i := 409) (by decide +kernel), List.mem_of_getElem? (i := 410) (by decide +kernel)⟩
theorem lw_p18 : lw_okq (⟨"MiddleOfCourt$Text", "work", "(II)I"⟩, 6) := ⟨⟨by decide +kernel, by decide +kernel⟩, List.mem_of_getElem? (i := 71) (by decide +kernel), List.mem_of_getElem? (i := 579) (by decide +kernel), List.mem_of_getElem? (i := 580) (by decide +kernel)⟩
theorem lw_p19 : lw_okq (⟨"MiddleOfCourt", "refusalOfRally", "(I)I"⟩, 19) := ⟨⟨by decide +kernel, by decide +kernel⟩, List.mem_of_getElem? (i := 22) (by decide +kernel), List.mem_of_getElem? (i := 667) (by decide +kernel), List.mem_of_getElem? (i := 668) (by decide +kernel)⟩
theorem lw_p20 : lw_okq (⟨"MiddleOfCourt", "sheetAt", "(I)LMiddleOfCourt$Sheet;"⟩, 19) := ⟨⟨by decide +kernel, by decide +kernel⟩, List.mem_of_getElem? (i := 22) (by decide +kernel), List.mem_of_getElem? (i := 671) (by decide +kernel), List.mem_of_getElem? (i := 672) (by decide +kernel)⟩
theorem lw_p21 : lw_okq (⟨"MiddleOfCourt", "playInThought", "(I)I"⟩, 19) := ⟨⟨by decide +kernel, by decide +kernel⟩, List.mem_of_getElem? (i := 22) (by decide +kernel), List.mem_of_getElem? (i := 683) (by decide +kernel), List.mem_of_getElem? (i := 684) (by decide +kernel)⟩
theorem lw_p22 : lw_okq (⟨"MiddleOfCourt", "playOut", "(LMiddleOfCourt$Court;LMiddleOfCourt$Sheet;)I"⟩, 19) := ⟨⟨by decide +kernel, by decide +kernel⟩, List.mem_of_getElem? (i := 22) (by decide +kernel), List.mem_of_getElem? (i := 695) (by decide +kernel), List.mem_of_getElem? (i := 696) (by decide +kernel)⟩
theorem lw_p23 : lw_okq (⟨"MiddleOfCourt", "valueFor", "(LMiddleOfCourt$Court;III)I"⟩, 19) := ⟨⟨by decide +kernel, by decide +kernel⟩, List.mem_of_getElem? (i := 22) (by decide +kernel), List.mem_of_getElem? (i := 740) (by decide +kernel), List.mem_of_getElem? (i := 741) (by decide +kernel)⟩
theorem lw_p24 : lw_okq (⟨"MiddleOfCourt", "valueBy", "(LMiddleOfCourt$Court;ILMiddleOfCourt$Stroke;II)I"⟩, 19) := ⟨⟨by decide +kernel, by decide +kernel⟩, List.mem_of_getElem? (i := 22) (by decide +kernel), List.mem_of_getElem? (i := 744) (by decide +kernel), List.mem_of_getElem? (i := 745) (by decide +kernel)⟩
theorem lw_p25 : lw_okq (⟨"MiddleOfCourt", "badness", "(II)I"⟩, 19) := ⟨⟨by decide +kernel, by decide +kernel⟩, List.mem_of_getElem? (i := 22) (by decide +kernel), List.mem_of_getElem? (i := 761) (by decide +kernel), List.mem_of_getElem? (i := 762) (by decide +kernel)⟩
theorem lw_p26 : lw_okq (⟨"MiddleOfCourt", "rowsBy", "(LMiddleOfCourt$Court;LMiddleOfCourt$Sheet;II)I"⟩, 19) := ⟨⟨by decide +kernel, by decide +kernel⟩, List.mem_of_getElem? (i := 22) (by decide +kernel), List.mem_of_getElem? (i := 777) (by decide +kernel), List.mem_of_getElem? (i := 778) (by decide +kernel)⟩
theorem lw_p27 : lw_okq (⟨"MiddleOfCourt", "rulesBy", "(LMiddleOfCourt$Sheet;I)I"⟩, 19) := ⟨⟨by decide +kernel, by decide +kernel⟩, List.mem_of_getElem? (i := 22) (by decide +kernel), List.mem_of_getElem? (i := 785) (by decide +kernel), List.mem_of_getElem? (i := 786) (by decide +kernel)⟩
theorem lw_p28 : lw_okq (⟨"MiddleOfCourt", "quicksBy", "(LMiddleOfCourt$Sheet;II)I"⟩, 19) := ⟨⟨by decide +kernel, by decide +kernel⟩, List.mem_of_getElem? (i := 22) (by decide +kernel), List.mem_of_getElem? (i := 789) (by decide +kernel), List.mem_of_getElem? (i := 790) (by decide +kernel)⟩
theorem lw_p29 : lw_okq (⟨"MiddleOfCourtModel", "spell", "(IIIIIIIII)V"⟩, 51) := ⟨⟨by decide +kernel, by decide +kernel⟩, List.mem_of_getElem? (i := 859) (by decide +kernel), List.mem_of_getElem? (i := 865) (by decide +kernel), List.mem_of_getElem? (i := 866) (by decide +kernel)⟩
theorem lw_p30 : lw_okq (⟨"MiddleOfCourtModel", "isStroke", "(I)Z"⟩, 51) := ⟨⟨by decide +kernel, by decide +kernel⟩, List.mem_of_getElem? (i := 859) (by decide +kernel), List.mem_of_getElem? (i := 1036) (by decide +kernel), List.mem_of_getElem? (i := 1037) (by decide +kernel)⟩
theorem lw_p31 : lw_okq (⟨"MiddleOfCourtModel", "read", "(II)I"⟩, 51) := ⟨⟨by decide +kernel, by decide +kernel⟩, List.mem_of_getElem? (i := 859) (by decide +kernel), List.mem_of_getElem? (i := 1066) (by decide +kernel), List.mem_of_getElem? (i := 1067) (by decide +kernel)⟩
def lw_privs_2 : List (MethodName × Nat) := [(⟨"MiddleOfCourt$Tape", "readOne", "(I)V"⟩, 8), (⟨"MiddleOfCourt", "strokeAt", "(I)LMiddleOfCourt$Stroke;"⟩, 19), (⟨"MiddleOfCourt$Text", "work", "(II)I"⟩, 6), (⟨"MiddleOfCourt", "refusalOfRally", "(I)I"⟩, 19), (⟨"MiddleOfCourt", "sheetAt", "(I)LMiddleOfCourt$Sheet;"⟩, 19), (⟨"MiddleOfCourt", "playInThought", "(I)I"⟩, 19), (⟨"MiddleOfCourt", "playOut", "(LMiddleOfCourt$Court;LMiddleOfCourt$Sheet;)I"⟩, 19), (⟨"MiddleOfCourt", "valueFor", "(LMiddleOfCourt$Court;III)I"⟩, 19), (⟨"MiddleOfCourt", "valueBy", "(LMiddleOfCourt$Court;ILMiddleOfCourt$Stroke;II)I"⟩, 19), (⟨"MiddleOfCourt", "badness", "(II)I"⟩, 19), (⟨"MiddleOfCourt", "rowsBy", "(LMiddleOfCourt$Court;LMiddleOfCourt$Sheet;II)I"⟩, 19), (⟨"MiddleOfCourt", "rulesBy", "(LMiddleOfCourt$Sheet;I)I"⟩, 19), (⟨"MiddleOfCourt", "quicksBy", "(LMiddleOfCourt$Sheet;II)I"⟩, 19), (⟨"MiddleOfCourtModel", "spell", "(IIIIIIIII)V"⟩, 51), (⟨"MiddleOfCourtModel", "isStroke", "(I)Z"⟩, 51), (⟨"MiddleOfCourtModel", "read", "(II)I"⟩, 51)]
theorem lw_r2 : ∀ q ∈ lw_privs_2, lw_okq q := List.forall_mem_cons.mpr ⟨lw_p16, List.forall_mem_cons.mpr ⟨lw_p17, List.forall_mem_cons.mpr ⟨lw_p18, List.forall_mem_cons.mpr ⟨lw_p19, List.forall_mem_cons.mpr ⟨lw_p20, List.forall_mem_cons.mpr ⟨lw_p21, List.forall_mem_cons.mpr ⟨lw_p22, List.forall_mem_cons.mpr ⟨lw_p23, List.forall_mem_cons.mpr ⟨lw_p24, List.forall_mem_cons.mpr ⟨lw_p25, List.forall_mem_cons.mpr ⟨lw_p26, List.forall_mem_cons.mpr ⟨lw_p27, List.forall_mem_cons.mpr ⟨lw_p28, List.forall_mem_cons.mpr ⟨lw_p29, List.forall_mem_cons.mpr ⟨lw_p30, List.forall_mem_cons.mpr ⟨lw_p31, fun _ h => absurd h List.not_mem_nil⟩⟩⟩⟩⟩⟩⟩⟩⟩⟩⟩⟩⟩⟩⟩⟩
theorem lw_p32 : lw_okq (⟨"MiddleOfCourtModel", "next", "()V"⟩, 51) := ⟨⟨by decide +kernel, by decide +kernel⟩, List.mem_of_getElem? (i := 859) (by decide +kernel), List.mem_of_getElem? (i := 1070) (by decide +kernel), List.mem_of_getElem? (i := 1071) (by decide +kernel)⟩
theorem lw_p33 : lw_okq (⟨"MiddleOfCourtModel", "byteAt", "(I)I"⟩, 51) := ⟨⟨by decide +kernel, by decide +kernel⟩, List.mem_of_getElem? (i := 859) (by decide +kernel), List.mem_of_getElem? (i := 1074) (by decide +kernel), List.mem_of_getElem? (i := 1075) (by decide +kernel)⟩
theorem lw_p34 : lw_okq (⟨"MiddleOfCourtModel", "isWord", "(IIIIIIII)Z"⟩, 51) := ⟨⟨by decide +kernel, by decide +kernel⟩, List.mem_of_getElem? (i := 859) (by decide +kernel), List.mem_of_getElem? (i := 1083) (by decide +kernel), List.mem_of_getElem? (i := 1084) (by decide +kernel)⟩
theorem lw_p35 : lw_okq (⟨"MiddleOfCourtModel", "isLetter", "(II)Z"⟩, 51) := ⟨⟨by decide +kernel, by decide +kernel⟩, List.mem_of_getElem? (i := 859) (by decide +kernel), List.mem_of_getElem? (i := 1087) (by decide +kernel), List.mem_of_getElem? (i := 1088) (by decide +kernel)⟩
theorem lw_p36 : lw_okq (⟨"MiddleOfCourtModel", "part", "(Z)I"⟩, 51) := ⟨⟨by decide +kernel, by decide +kernel⟩, List.mem_of_getElem? (i := 859) (by decide +kernel), List.mem_of_getElem? (i := 1091) (by decide +kernel), List.mem_of_getElem? (i := 1092) (by decide +kernel)⟩
theorem lw_p37 : lw_okq (⟨"MiddleOfCourtModel", "fail", "()V"⟩, 51) := ⟨⟨by decide +kernel, by decide +kernel⟩, List.mem_of_getElem? (i := 859) (by decide +kernel), List.mem_of_getElem? (i := 1095) (by decide +kernel), List.mem_of_getElem? (i := 1096) (by decide +kernel)⟩
theorem lw_p38 : lw_okq (⟨"MiddleOfCourtModel", "either", "()I"⟩, 51) := ⟨⟨by decide +kernel, by decide +kernel⟩, List.mem_of_getElem? (i := 859) (by decide +kernel), List.mem_of_getElem? (i := 1099) (by decide +kernel), List.mem_of_getElem? (i := 1100) (by decide +kernel)⟩
theorem lw_p39 : lw_okq (⟨"MiddleOfCourtModel", "both", "()I"⟩, 51) := ⟨⟨by decide +kernel, by decide +kernel⟩, List.mem_of_getElem? (i := 859) (by decide +kernel), List.mem_of_getElem? (i := 1103) (by decide +kernel), List.mem_of_getElem? (i := 1104) (by decide +kernel)⟩
theorem lw_p40 : lw_okq (⟨"MiddleOfCourtModel", "not", "()I"⟩, 51) := ⟨⟨by decide +kernel, by decide +kernel⟩, List.mem_of_getElem? (i := 859) (by decide +kernel), List.mem_of_getElem? (i := 1107) (by decide +kernel), List.mem_of_getElem? (i := 1108) (by decide +kernel)⟩
theorem lw_p41 : lw_okq (⟨"MiddleOfCourtModel", "opens", "()Z"⟩, 51) := ⟨⟨by decide +kernel, by decide +kernel⟩, List.mem_of_getElem? (i := 859) (by decide +kernel), List.mem_of_getElem? (i := 1111) (by decide +kernel), List.mem_of_getElem? (i := 1112) (by decide +kernel)⟩
theorem lw_p42 : lw_okq (⟨"MiddleOfCourtModel", "added", "()I"⟩, 51) := ⟨⟨by decide +kernel, by decide +kernel⟩, List.mem_of_getElem? (i := 859) (by decide +kernel), List.mem_of_getElem? (i := 1115) (by decide +kernel), List.mem_of_getElem? (i := 1116) (by decide +kernel)⟩
theorem lw_p43 : lw_okq (⟨"MiddleOfCourtModel", "term", "()I"⟩, 51) := ⟨⟨by decide +kernel, by decide +kernel⟩, List.mem_of_getElem? (i := 859) (by decide +kernel), List.mem_of_getElem? (i := 1119) (by decide +kernel), List.mem_of_getElem? (i := 1120) (by decide +kernel)⟩
theorem lw_p44 : lw_okq (⟨"MiddleOfCourtModel", "atom", "()I"⟩, 51) := ⟨⟨by decide +kernel, by decide +kernel⟩, List.mem_of_getElem? (i := 859) (by decide +kernel), List.mem_of_getElem? (i := 1123) (by decide +kernel), List.mem_of_getElem? (i := 1124) (by decide +kernel)⟩
theorem lw_p45 : lw_okq (⟨"MiddleOfCourtModel", "isSign", "(I)Z"⟩, 51) := ⟨⟨by decide +kernel, by decide +kernel⟩, List.mem_of_getElem? (i := 859) (by decide +kernel), List.mem_of_getElem? (i := 1127) (by decide +kernel), List.mem_of_getElem? (i := 1128) (by decide +kernel)⟩
theorem lw_p46 : lw_okq (⟨"MiddleOfCourtModel", "name", "()I"⟩, 51) := ⟨⟨by decide +kernel, by decide +kernel⟩, List.mem_of_getElem? (i := 859) (by decide +kernel), List.mem_of_getElem? (i := 1131) (by decide +kernel), List.mem_of_getElem? (i := 1132) (by decide +kernel)⟩
theorem lw_p47 : lw_okq (⟨"MiddleOfCourtModel", "needsOf", "(III)I"⟩, 51) := ⟨⟨by decide +kernel, by decide +kernel⟩, List.mem_of_getElem? (i := 859) (by decide +kernel), List.mem_of_getElem? (i := 1146) (by decide +kernel), List.mem_of_getElem? (i := 1147) (by decide +kernel)⟩
def lw_privs_3 : List (MethodName × Nat) := [(⟨"MiddleOfCourtModel", "next", "()V"⟩, 51), (⟨"MiddleOfCourtModel", "byteAt", "(I)I"⟩, 51), (⟨"MiddleOfCourtModel", "isWord", "(IIIIIIII)Z"⟩, 51), (⟨"MiddleOfCourtModel", "isLetter", "(II)Z"⟩, 51), (⟨"MiddleOfCourtModel", "part", "(Z)I"⟩, 51), (⟨"MiddleOfCourtModel", "fail", "()V"⟩, 51), (⟨"MiddleOfCourtModel", "either", "()I"⟩, 51), (⟨"MiddleOfCourtModel", "both", "()I"⟩, 51), (⟨"MiddleOfCourtModel", "not", "()I"⟩, 51), (⟨"MiddleOfCourtModel", "opens", "()Z"⟩, 51), (⟨"MiddleOfCourtModel", "added", "()I"⟩, 51), (⟨"MiddleOfCourtModel", "term", "()I"⟩, 51), (⟨"MiddleOfCourtModel", "atom", "()I"⟩, 51), (⟨"MiddleOfCourtModel", "isSign", "(I)Z"⟩, 51), (⟨"MiddleOfCourtModel", "name", "()I"⟩, 51), (⟨"MiddleOfCourtModel", "needsOf", "(III)I"⟩, 51)]
theorem lw_r3 : ∀ q ∈ lw_privs_3, lw_okq q := List.forall_mem_cons.mpr ⟨lw_p32, List.forall_mem_cons.mpr ⟨lw_p33, List.forall_mem_cons.mpr ⟨lw_p34, List.forall_mem_cons.mpr ⟨lw_p35, List.forall_mem_cons.mpr ⟨lw_p36, List.forall_mem_cons.mpr ⟨lw_p37, List.forall_mem_cons.mpr ⟨lw_p38, List.forall_mem_cons.mpr ⟨lw_p39, List.forall_mem_cons.mpr ⟨lw_p40, List.forall_mem_cons.mpr ⟨lw_p41, List.forall_mem_cons.mpr ⟨lw_p42, List.forall_mem_cons.mpr ⟨lw_p43, List.forall_mem_cons.mpr ⟨lw_p44, List.forall_mem_cons.mpr ⟨lw_p45, List.forall_mem_cons.mpr ⟨lw_p46, List.forall_mem_cons.mpr ⟨lw_p47, fun _ h => absurd h List.not_mem_nil⟩⟩⟩⟩⟩⟩⟩⟩⟩⟩⟩⟩⟩⟩⟩⟩
theorem lw_p48 : lw_okq (⟨"MiddleOfCourtModel", "says", "(IIIII)I"⟩, 51) := ⟨⟨by decide +kernel, by decide +kernel⟩, List.mem_of_getElem? (i := 859) (by decide +kernel), List.mem_of_getElem? (i := 1156) (by decide +kernel), List.mem_of_getElem? (i := 1157) (by decide +kernel)⟩
theorem lw_p49 : lw_okq (⟨"MiddleOfCourtModel", "comesTo", "(II)I"⟩, 51) := ⟨⟨by decide +kernel, by decide +kernel⟩, List.mem_of_getElem? (i := 859) (by decide +kernel), List.mem_of_getElem? (i := 1167) (by decide +kernel), List.mem_of_getElem? (i := 1168) (by decide +kernel)⟩
theorem lw_p50 : lw_okq (⟨"MiddleOfCourtModel", "tenthsOf", "(II)I"⟩, 51) := ⟨⟨by decide +kernel, by decide +kernel⟩, List.mem_of_getElem? (i := 859) (by decide +kernel), List.mem_of_getElem? (i := 1174) (by decide +kernel), List.mem_of_getElem? (i := 1175) (by decide +kernel)⟩
theorem lw_p51 : lw_okq (⟨"MiddleOfCourtModel", "slipsOf", "(II)I"⟩, 51) := ⟨⟨by decide +kernel, by decide +kernel⟩, List.mem_of_getElem? (i := 859) (by decide +kernel), List.mem_of_getElem? (i := 1178) (by decide +kernel), List.mem_of_getElem? (i := 1179) (by decide +kernel)⟩
theorem lw_p52 : lw_okq (⟨"MiddleOfCourtModel", "spendsOf", "(I)I"⟩, 51) := ⟨⟨by decide +kernel, by decide +kernel⟩, List.mem_of_getElem? (i := 859) (by decide +kernel), List.mem_of_getElem? (i := 1182) (by decide +kernel), List.mem_of_getElem? (i := 1183) (by decide +kernel)⟩
theorem lw_p53 : lw_okq (⟨"MiddleOfCourtModel", "rallyBad", "(I)I"⟩, 51) := ⟨⟨by decide +kernel, by decide +kernel⟩, List.mem_of_getElem? (i := 859) (by decide +kernel), List.mem_of_getElem? (i := 1194) (by decide +kernel), List.mem_of_getElem? (i := 1195) (by decide +kernel)⟩
theorem lw_p54 : lw_okq (⟨"MiddleOfCourtModel", "layAside", "()V"⟩, 51) := ⟨⟨by decide +kernel, by decide +kernel⟩, List.mem_of_getElem? (i := 859) (by decide +kernel), List.mem_of_getElem? (i := 1198) (by decide +kernel), List.mem_of_getElem? (i := 1199) (by decide +kernel)⟩
theorem lw_p55 : lw_okq (⟨"MiddleOfCourtModel", "rallies", "(I)V"⟩, 51) := ⟨⟨by decide +kernel, by decide +kernel⟩, List.mem_of_getElem? (i := 859) (by decide +kernel), List.mem_of_getElem? (i := 1202) (by decide +kernel), List.mem_of_getElem? (i := 1203) (by decide +kernel)⟩
theorem lw_p56 : lw_okq (⟨"MiddleOfCourtModel", "strikes", "(II)Z"⟩, 51) := ⟨⟨by decide +kernel, by decide +kernel⟩, List.mem_of_getElem? (i := 859) (by decide +kernel), List.mem_of_getElem? (i := 1208) (by decide +kernel), List.mem_of_getElem? (i := 1209) (by decide +kernel)⟩
theorem lw_p57 : lw_okq (⟨"MiddleOfCourtModel", "tire", "(II)V"⟩, 51) := ⟨⟨by decide +kernel, by decide +kernel⟩, List.mem_of_getElem? (i := 859) (by decide +kernel), List.mem_of_getElem? (i := 1212) (by decide +kernel), List.mem_of_getElem? (i := 1213) (by decide +kernel)⟩
theorem lw_p58 : lw_okq (⟨"MiddleOfCourtModel", "takeBack", "()V"⟩, 51) := ⟨⟨by decide +kernel, by decide +kernel⟩, List.mem_of_getElem? (i := 859) (by decide +kernel), List.mem_of_getElem? (i := 1219) (by decide +kernel), List.mem_of_getElem? (i := 1220) (by decide +kernel)⟩
theorem lw_p59 : lw_okq (⟨"MiddleOfCourtModel", "valueOf", "(II)I"⟩, 51) := ⟨⟨by decide +kernel, by decide +kernel⟩, List.mem_of_getElem? (i := 859) (by decide +kernel), List.mem_of_getElem? (i := 1236) (by decide +kernel), List.mem_of_getElem? (i := 1237) (by decide +kernel)⟩
theorem lw_p60 : lw_okq (⟨"MiddleOfCourtModel", "badness", "(II)I"⟩, 51) := ⟨⟨by decide +kernel, by decide +kernel⟩, List.mem_of_getElem? (i := 859) (by decide +kernel), List.mem_of_getElem? (i := 1249) (by decide +kernel), List.mem_of_getElem? (i := 1250) (by decide +kernel)⟩
theorem lw_p61 : lw_okq (⟨"MiddleOfCourtModel", "goesOn", "(III)V"⟩, 51) := ⟨⟨by decide +kernel, by decide +kernel⟩, List.mem_of_getElem? (i := 859) (by decide +kernel), List.mem_of_getElem? (i := 1265) (by decide +kernel), List.mem_of_getElem? (i := 1266) (by decide +kernel)⟩
theorem lw_p62 : lw_okq (⟨"MiddleOfCourtModel", "tries", "(II)V"⟩, 51) := ⟨⟨by decide +kernel, by decide +kernel⟩, List.mem_of_getElem? (i := 859) (by decide +kernel), List.mem_of_getElem? (i := 1274) (by decide +kernel), List.mem_of_getElem? (i := 1275) (by decide +kernel)⟩
theorem lw_p63 : lw_okq (⟨"MiddleOfCourtModel", "winsSo", "(II)Z"⟩, 51) := ⟨⟨by decide +kernel, by decide +kernel⟩, List.mem_of_getElem? (i := 859) (by decide +kernel), List.mem_of_getElem? (i := 1278) (by decide +kernel), List.mem_of_getElem? (i := 1279) (by decide +kernel)⟩
def lw_privs_4 : List (MethodName × Nat) := [(⟨"MiddleOfCourtModel", "says", "(IIIII)I"⟩, 51), (⟨"MiddleOfCourtModel", "comesTo", "(II)I"⟩, 51), (⟨"MiddleOfCourtModel", "tenthsOf", "(II)I"⟩, 51), (⟨"MiddleOfCourtModel", "slipsOf", "(II)I"⟩, 51), (⟨"MiddleOfCourtModel", "spendsOf", "(I)I"⟩, 51), (⟨"MiddleOfCourtModel", "rallyBad", "(I)I"⟩, 51), (⟨"MiddleOfCourtModel", "layAside", "()V"⟩, 51), (⟨"MiddleOfCourtModel", "rallies", "(I)V"⟩, 51), (⟨"MiddleOfCourtModel", "strikes", "(II)Z"⟩, 51), (⟨"MiddleOfCourtModel", "tire", "(II)V"⟩, 51), (⟨"MiddleOfCourtModel", "takeBack", "()V"⟩, 51), (⟨"MiddleOfCourtModel", "valueOf", "(II)I"⟩, 51), (⟨"MiddleOfCourtModel", "badness", "(II)I"⟩, 51), (⟨"MiddleOfCourtModel", "goesOn", "(III)V"⟩, 51), (⟨"MiddleOfCourtModel", "tries", "(II)V"⟩, 51), (⟨"MiddleOfCourtModel", "winsSo", "(II)Z"⟩, 51)]
theorem lw_r4 : ∀ q ∈ lw_privs_4, lw_okq q := List.forall_mem_cons.mpr ⟨lw_p48, List.forall_mem_cons.mpr ⟨lw_p49, List.forall_mem_cons.mpr ⟨lw_p50, List.forall_mem_cons.mpr ⟨lw_p51, List.forall_mem_cons.mpr ⟨lw_p52, List.forall_mem_cons.mpr ⟨lw_p53, List.forall_mem_cons.mpr ⟨lw_p54, List.forall_mem_cons.mpr ⟨lw_p55, List.forall_mem_cons.mpr ⟨lw_p56, List.forall_mem_cons.mpr ⟨lw_p57, List.forall_mem_cons.mpr ⟨lw_p58, List.forall_mem_cons.mpr ⟨lw_p59, List.forall_mem_cons.mpr ⟨lw_p60, List.forall_mem_cons.mpr ⟨lw_p61, List.forall_mem_cons.mpr ⟨lw_p62, List.forall_mem_cons.mpr ⟨lw_p63, fun _ h => absurd h List.not_mem_nil⟩⟩⟩⟩⟩⟩⟩⟩⟩⟩⟩⟩⟩⟩⟩⟩
theorem lw_p64 : lw_okq (⟨"MiddleOfCourtModel", "draws", "(I)I"⟩, 51) := ⟨⟨by decide +kernel, by decide +kernel⟩, List.mem_of_getElem? (i := 859) (by decide +kernel), List.mem_of_getElem? (i := 1294) (by decide +kernel), List.mem_of_getElem? (i := 1295) (by decide +kernel)⟩
def lw_privs_5 : List (MethodName × Nat) := [(⟨"MiddleOfCourtModel", "draws", "(I)I"⟩, 51)]
theorem lw_r5 : ∀ q ∈ lw_privs_5, lw_okq q := List.forall_mem_cons.mpr ⟨lw_p64, fun _ h => absurd h List.not_mem_nil⟩
def lw_privs : List (MethodName × Nat) := lw_privs_1 ++ (lw_privs_2 ++ (lw_privs_3 ++ (lw_privs_4 ++ (lw_privs_5))))
def lw_tbl : List Cond := k2_sels lw_privs ++ tables_1
theorem lw_privs_ok : ∀ q ∈ lw_privs, lw_okq q := by
  show ∀ q ∈ lw_privs_1 ++ (lw_privs_2 ++ (lw_privs_3 ++ (lw_privs_4 ++ (lw_privs_5)))), lw_okq q
  exact List.forall_mem_append.mpr ⟨lw_r1, List.forall_mem_append.mpr ⟨lw_r2, List.forall_mem_append.mpr ⟨lw_r3, List.forall_mem_append.mpr ⟨lw_r4, lw_r5⟩⟩⟩⟩
-- ===== end of PART A; then your names; then what follows =====
def RX0 : String := "MiddleOfCourt$Boast"
def TX0 : u_T := fun k => match k with
  | 0 => ("MiddleOfCourt$Stroke", "number", "I", false)
  | _ => ("MiddleOfCourt$Stroke", "aim", "I", false)
def tyX0 : Nat → FieldType := fun k => match k with
  | 0 => .int
  | _ => .int
theorem nmX0 : ∀ a, a < 2 → ∀ b, b < 2 → a ≠ b → (TX0 a).2.1 ≠ (TX0 b).2.1 := by decide +kernel
theorem tyX0_ok : ∀ k, k < 2 → parseFieldDescriptor (TX0 k).2.2.1 = some (tyX0 k) := by decide +kernel
abbrev cX0_init : ByteArray := prog_2_method_1_code
def yX0_init : MethodName := ⟨RX0, "<init>", "(II)V"⟩
abbrev cX0_kind : ByteArray := prog_2_method_2_code
def yX0_kind : MethodName := ⟨RX0, "kind", "()I"⟩
abbrev cX0_comes : ByteArray := prog_2_method_3_code
def yX0_comes : MethodName := ⟨RX0, "comes", "(I)I"⟩
abbrev cX0_flight : ByteArray := prog_2_method_4_code
def yX0_flight : MethodName := ⟨RX0, "flight", "(II)I"⟩
def RX1 : String := "MiddleOfCourt$Court"
def TX1 : u_T := fun k => match k with
  | 0 => ("MiddleOfCourt$Court", "first", "LMiddleOfCourt$Player;", true)
  | 1 => ("MiddleOfCourt$Court", "second", "LMiddleOfCourt$Player;", true)
  | 2 => ("MiddleOfCourt$Court", "warm", "I", false)
  | _ => ("MiddleOfCourt$Court", "rule", "LMiddleOfCourt$Text;", false)
def tyX1 : Nat → FieldType := fun k => match k with
  | 0 => .object "MiddleOfCourt$Player"
  | 1 => .object "MiddleOfCourt$Player"
  | 2 => .int
  | _ => .object "MiddleOfCourt$Text"
theorem nmX1 : ∀ a, a < 4 → ∀ b, b < 4 → a ≠ b → (TX1 a).2.1 ≠ (TX1 b).2.1 := by decide +kernel
theorem tyX1_ok : ∀ k, k < 4 → parseFieldDescriptor (TX1 k).2.2.1 = some (tyX1 k) := by decide +kernel
abbrev cX1_init : ByteArray := prog_3_method_1_code
def yX1_init : MethodName := ⟨RX1, "<init>", "(LMiddleOfCourt$Text;)V"⟩
abbrev cX1_take : ByteArray := prog_3_method_2_code
def yX1_take : MethodName := ⟨RX1, "take", "(LMiddleOfCourt$Court;)V"⟩
abbrev cX1_one : ByteArray := prog_3_method_3_code
def yX1_one : MethodName := ⟨RX1, "one", "(I)LMiddleOfCourt$Player;"⟩
abbrev cX1_needsOf : ByteArray := prog_3_method_4_code
def yX1_needsOf : MethodName := ⟨RX1, "needsOf", "(LMiddleOfCourt$Player;II)I"⟩
abbrev cX1_tenthsOf : ByteArray := prog_3_method_5_code
def yX1_tenthsOf : MethodName := ⟨RX1, "tenthsOf", "(LMiddleOfCourt$Player;LMiddleOfCourt$Stroke;)I"⟩
abbrev cX1_slipsOf : ByteArray := prog_3_method_6_code
def yX1_slipsOf : MethodName := ⟨RX1, "slipsOf", "(LMiddleOfCourt$Player;LMiddleOfCourt$Stroke;)I"⟩
abbrev cX1_wouldWin : ByteArray := prog_3_method_7_code
def yX1_wouldWin : MethodName := ⟨RX1, "wouldWin", "(ILMiddleOfCourt$Stroke;)Z"⟩
abbrev cX1_strike : ByteArray := prog_3_method_8_code
def yX1_strike : MethodName := ⟨RX1, "strike", "(ILMiddleOfCourt$Stroke;)Z"⟩
def RX2 : String := "MiddleOfCourt$Cross"
def TX2 : u_T := fun k => match k with
  | 0 => ("MiddleOfCourt$Stroke", "number", "I", false)
  | _ => ("MiddleOfCourt$Stroke", "aim", "I", false)
def tyX2 : Nat → FieldType := fun k => match k with
  | 0 => .int
  | _ => .int
theorem nmX2 : ∀ a, a < 2 → ∀ b, b < 2 → a ≠ b → (TX2 a).2.1 ≠ (TX2 b).2.1 := by decide +kernel
theorem tyX2_ok : ∀ k, k < 2 → parseFieldDescriptor (TX2 k).2.2.1 = some (tyX2 k) := by decide +kernel
abbrev cX2_init : ByteArray := prog_4_method_1_code
def yX2_init : MethodName := ⟨RX2, "<init>", "(II)V"⟩
abbrev cX2_kind : ByteArray := prog_4_method_2_code
def yX2_kind : MethodName := ⟨RX2, "kind", "()I"⟩
abbrev cX2_comes : ByteArray := prog_4_method_3_code
def yX2_comes : MethodName := ⟨RX2, "comes", "(I)I"⟩
abbrev cX2_flight : ByteArray := prog_4_method_4_code
def yX2_flight : MethodName := ⟨RX2, "flight", "(II)I"⟩
abbrev cX2_spends : ByteArray := prog_4_method_5_code
def yX2_spends : MethodName := ⟨RX2, "spends", "()I"⟩
def RX3 : String := "MiddleOfCourt$Drop"
def TX3 : u_T := fun k => match k with
  | 0 => ("MiddleOfCourt$Stroke", "number", "I", false)
  | _ => ("MiddleOfCourt$Stroke", "aim", "I", false)
def tyX3 : Nat → FieldType := fun k => match k with
  | 0 => .int
  | _ => .int
theorem nmX3 : ∀ a, a < 2 → ∀ b, b < 2 → a ≠ b → (TX3 a).2.1 ≠ (TX3 b).2.1 := by decide +kernel
theorem tyX3_ok : ∀ k, k < 2 → parseFieldDescriptor (TX3 k).2.2.1 = some (tyX3 k) := by decide +kernel
abbrev cX3_init : ByteArray := prog_5_method_1_code
def yX3_init : MethodName := ⟨RX3, "<init>", "(II)V"⟩
abbrev cX3_kind : ByteArray := prog_5_method_2_code
def yX3_kind : MethodName := ⟨RX3, "kind", "()I"⟩
abbrev cX3_flight : ByteArray := prog_5_method_3_code
def yX3_flight : MethodName := ⟨RX3, "flight", "(II)I"⟩
abbrev cX3_spends : ByteArray := prog_5_method_4_code
def yX3_spends : MethodName := ⟨RX3, "spends", "()I"⟩
def RX4 : String := "MiddleOfCourt$Length"
def TX4 : u_T := fun k => match k with
  | 0 => ("MiddleOfCourt$Stroke", "number", "I", false)
  | _ => ("MiddleOfCourt$Stroke", "aim", "I", false)
def tyX4 : Nat → FieldType := fun k => match k with
  | 0 => .int
  | _ => .int
theorem nmX4 : ∀ a, a < 2 → ∀ b, b < 2 → a ≠ b → (TX4 a).2.1 ≠ (TX4 b).2.1 := by decide +kernel
theorem tyX4_ok : ∀ k, k < 2 → parseFieldDescriptor (TX4 k).2.2.1 = some (tyX4 k) := by decide +kernel
abbrev cX4_init : ByteArray := prog_6_method_1_code
def yX4_init : MethodName := ⟨RX4, "<init>", "(II)V"⟩
abbrev cX4_kind : ByteArray := prog_6_method_2_code
def yX4_kind : MethodName := ⟨RX4, "kind", "()I"⟩
abbrev cX4_flight : ByteArray := prog_6_method_3_code
def yX4_flight : MethodName := ⟨RX4, "flight", "(II)I"⟩
def RX5 : String := "MiddleOfCourt$Lob"
def TX5 : u_T := fun k => match k with
  | 0 => ("MiddleOfCourt$Stroke", "number", "I", false)
  | _ => ("MiddleOfCourt$Stroke", "aim", "I", false)
def tyX5 : Nat → FieldType := fun k => match k with
  | 0 => .int
  | _ => .int
theorem nmX5 : ∀ a, a < 2 → ∀ b, b < 2 → a ≠ b → (TX5 a).2.1 ≠ (TX5 b).2.1 := by decide +kernel
theorem tyX5_ok : ∀ k, k < 2 → parseFieldDescriptor (TX5 k).2.2.1 = some (tyX5 k) := by decide +kernel
abbrev cX5_init : ByteArray := prog_7_method_1_code
def yX5_init : MethodName := ⟨RX5, "<init>", "(II)V"⟩
abbrev cX5_kind : ByteArray := prog_7_method_2_code
def yX5_kind : MethodName := ⟨RX5, "kind", "()I"⟩
abbrev cX5_comes : ByteArray := prog_7_method_3_code
def yX5_comes : MethodName := ⟨RX5, "comes", "(I)I"⟩
abbrev cX5_flight : ByteArray := prog_7_method_4_code
def yX5_flight : MethodName := ⟨RX5, "flight", "(II)I"⟩
abbrev cX5_spends : ByteArray := prog_7_method_5_code
def yX5_spends : MethodName := ⟨RX5, "spends", "()I"⟩
def RX6 : String := "MiddleOfCourt$Player"
def TX6 : u_T := fun k => match k with
  | 0 => ("MiddleOfCourt$Player", "cell", "I", false)
  | 1 => ("MiddleOfCourt$Player", "legs", "I", false)
  | 2 => ("MiddleOfCourt$Player", "quick", "I", false)
  | _ => ("MiddleOfCourt$Player", "home", "I", false)
def tyX6 : Nat → FieldType := fun k => match k with
  | 0 => .int
  | 1 => .int
  | 2 => .int
  | _ => .int
theorem nmX6 : ∀ a, a < 4 → ∀ b, b < 4 → a ≠ b → (TX6 a).2.1 ≠ (TX6 b).2.1 := by decide +kernel
theorem tyX6_ok : ∀ k, k < 4 → parseFieldDescriptor (TX6 k).2.2.1 = some (tyX6 k) := by decide +kernel
abbrev cX6_init : ByteArray := prog_8_method_1_code
def yX6_init : MethodName := ⟨RX6, "<init>", "()V"⟩
abbrev cX6_take : ByteArray := prog_8_method_2_code
def yX6_take : MethodName := ⟨RX6, "take", "(LMiddleOfCourt$Player;)V"⟩
abbrev cX6_tire : ByteArray := prog_8_method_3_code
def yX6_tire : MethodName := ⟨RX6, "tire", "(I)V"⟩
abbrev cX6_go : ByteArray := prog_8_method_4_code
def yX6_go : MethodName := ⟨RX6, "go", "(I)V"⟩
abbrev cX6_value : ByteArray := prog_8_method_5_code
def yX6_value : MethodName := ⟨RX6, "value", "(I)I"⟩
abbrev cX6_change : ByteArray := prog_8_method_6_code
def yX6_change : MethodName := ⟨RX6, "change", "(II)I"⟩
def RX7 : String := "MiddleOfCourt$Sheet"
def TX7 : u_T := fun k => match k with
  | 0 => ("MiddleOfCourt$Sheet", "items", "[I", true)
  | 1 => ("MiddleOfCourt$Sheet", "sort", "I", false)
  | _ => ("MiddleOfCourt$Sheet", "size", "I", false)
def tyX7 : Nat → FieldType := fun k => match k with
  | 0 => .array .int
  | 1 => .int
  | _ => .int
theorem nmX7 : ∀ a, a < 3 → ∀ b, b < 3 → a ≠ b → (TX7 a).2.1 ≠ (TX7 b).2.1 := by decide +kernel
theorem tyX7_ok : ∀ k, k < 3 → parseFieldDescriptor (TX7 k).2.2.1 = some (tyX7 k) := by decide +kernel
abbrev cX7_init : ByteArray := prog_9_method_1_code
def yX7_init : MethodName := ⟨RX7, "<init>", "()V"⟩
abbrev cX7_isMissing : ByteArray := prog_9_method_2_code
def yX7_isMissing : MethodName := ⟨RX7, "isMissing", "()Z"⟩
abbrev cX7_holds : ByteArray := prog_9_method_3_code
def yX7_holds : MethodName := ⟨RX7, "holds", "(II)Z"⟩
abbrev cX7_become : ByteArray := prog_9_method_4_code
def yX7_become : MethodName := ⟨RX7, "become", "(II)V"⟩
abbrev cX7_item : ByteArray := prog_9_method_5_code
def yX7_item : MethodName := ⟨RX7, "item", "(I)I"⟩
abbrev cX7_put : ByteArray := prog_9_method_6_code
def yX7_put : MethodName := ⟨RX7, "put", "(II)V"⟩
def RX8 : String := "MiddleOfCourt$Stroke"
def TX8 : u_T := fun k => match k with
  | 0 => ("MiddleOfCourt$Stroke", "number", "I", false)
  | _ => ("MiddleOfCourt$Stroke", "aim", "I", false)
def tyX8 : Nat → FieldType := fun k => match k with
  | 0 => .int
  | _ => .int
theorem nmX8 : ∀ a, a < 2 → ∀ b, b < 2 → a ≠ b → (TX8 a).2.1 ≠ (TX8 b).2.1 := by decide +kernel
theorem tyX8_ok : ∀ k, k < 2 → parseFieldDescriptor (TX8 k).2.2.1 = some (tyX8 k) := by decide +kernel
abbrev cX8_init : ByteArray := prog_10_method_1_code
def yX8_init : MethodName := ⟨RX8, "<init>", "(II)V"⟩
abbrev cX8_kind : ByteArray := prog_10_method_2_code
def yX8_kind : MethodName := ⟨RX8, "kind", "()I"⟩
abbrev cX8_comes : ByteArray := prog_10_method_3_code
def yX8_comes : MethodName := ⟨RX8, "comes", "(I)I"⟩
abbrev cX8_flight : ByteArray := prog_10_method_4_code
def yX8_flight : MethodName := ⟨RX8, "flight", "(II)I"⟩
abbrev cX8_spends : ByteArray := prog_10_method_5_code
def yX8_spends : MethodName := ⟨RX8, "spends", "()I"⟩
abbrev cX8_value : ByteArray := prog_10_method_6_code
def yX8_value : MethodName := ⟨RX8, "value", "(I)I"⟩
abbrev cX8_change : ByteArray := prog_10_method_7_code
def yX8_change : MethodName := ⟨RX8, "change", "(II)I"⟩
def RX9 : String := "MiddleOfCourt$Tape"
def TX9 : u_T := fun k => match k with
  | 0 => ("MiddleOfCourt$Tape", "letters", "[I", true)
  | 1 => ("MiddleOfCourt$Tape", "size", "I", false)
  | 2 => ("MiddleOfCourt$Tape", "into", "LMiddleOfCourt$Text;", false)
  | 3 => ("MiddleOfCourt$Tape", "place", "I", false)
  | 4 => ("MiddleOfCourt$Tape", "start", "I", false)
  | 5 => ("MiddleOfCourt$Tape", "token", "I", false)
  | 6 => ("MiddleOfCourt$Tape", "worth", "I", false)
  | _ => ("MiddleOfCourt$Tape", "fault", "I", false)
def tyX9 : Nat → FieldType := fun k => match k with
  | 0 => .array .int
  | 1 => .int
  | 2 => .object "MiddleOfCourt$Text"
  | 3 => .int
  | 4 => .int
  | 5 => .int
  | 6 => .int
  | _ => .int
theorem nmX9 : ∀ a, a < 8 → ∀ b, b < 8 → a ≠ b → (TX9 a).2.1 ≠ (TX9 b).2.1 := by decide +kernel
theorem tyX9_ok : ∀ k, k < 8 → parseFieldDescriptor (TX9 k).2.2.1 = some (tyX9 k) := by decide +kernel
abbrev cX9_init : ByteArray := prog_11_method_1_code
def yX9_init : MethodName := ⟨RX9, "<init>", "()V"⟩
abbrev cX9_add : ByteArray := prog_11_method_2_code
def yX9_add : MethodName := ⟨RX9, "add", "(I)Z"⟩
abbrev cX9_write : ByteArray := prog_11_method_3_code
def yX9_write : MethodName := ⟨RX9, "write", "(Ljava/lang/String;)V"⟩
abbrev cX9_readInto : ByteArray := prog_11_method_4_code
def yX9_readInto : MethodName := ⟨RX9, "readInto", "(LMiddleOfCourt$Text;)I"⟩
abbrev cX9_fail : ByteArray := prog_11_method_5_code
def yX9_fail : MethodName := ⟨RX9, "fail", "()V"⟩
abbrev cX9_expect : ByteArray := prog_11_method_6_code
def yX9_expect : MethodName := ⟨RX9, "expect", "(I)V"⟩
abbrev cX9_emit : ByteArray := prog_11_method_7_code
def yX9_emit : MethodName := ⟨RX9, "emit", "(I)V"⟩
abbrev cX9_readEither : ByteArray := prog_11_method_8_code
def yX9_readEither : MethodName := ⟨RX9, "readEither", "(I)V"⟩
abbrev cX9_readBoth : ByteArray := prog_11_method_9_code
def yX9_readBoth : MethodName := ⟨RX9, "readBoth", "(I)V"⟩
abbrev cX9_readNot : ByteArray := prog_11_method_10_code
def yX9_readNot : MethodName := ⟨RX9, "readNot", "(I)V"⟩
abbrev cX9_readSum : ByteArray := prog_11_method_11_code
def yX9_readSum : MethodName := ⟨RX9, "readSum", "(I)V"⟩
abbrev cX9_readTerm : ByteArray := prog_11_method_12_code
def yX9_readTerm : MethodName := ⟨RX9, "readTerm", "(I)V"⟩
abbrev cX9_readOne : ByteArray := prog_11_method_13_code
def yX9_readOne : MethodName := ⟨RX9, "readOne", "(I)V"⟩
abbrev cX9_opens : ByteArray := prog_11_method_14_code
def yX9_opens : MethodName := ⟨RX9, "opens", "(I)Z"⟩
abbrev cX9_letterAt : ByteArray := prog_11_method_15_code
def yX9_letterAt : MethodName := ⟨RX9, "letterAt", "(I)I"⟩
abbrev cX9_next : ByteArray := prog_11_method_16_code
def yX9_next : MethodName := ⟨RX9, "next", "()V"⟩
abbrev cX9_isLetter : ByteArray := prog_11_method_17_code
def yX9_isLetter : MethodName := ⟨RX9, "isLetter", "(I)Z"⟩
abbrev cX9_isDigit : ByteArray := prog_11_method_18_code
def yX9_isDigit : MethodName := ⟨RX9, "isDigit", "(I)Z"⟩
abbrev cX9_isSign : ByteArray := prog_11_method_19_code
def yX9_isSign : MethodName := ⟨RX9, "isSign", "(I)Z"⟩
abbrev cX9_nextNumber : ByteArray := prog_11_method_20_code
def yX9_nextNumber : MethodName := ⟨RX9, "nextNumber", "()V"⟩
abbrev cX9_nextWord : ByteArray := prog_11_method_21_code
def yX9_nextWord : MethodName := ⟨RX9, "nextWord", "()V"⟩
abbrev cX9_nameOfWord : ByteArray := prog_11_method_22_code
def yX9_nameOfWord : MethodName := ⟨RX9, "nameOfWord", "()I"⟩
abbrev cX9_keyOfWord : ByteArray := prog_11_method_23_code
def yX9_keyOfWord : MethodName := ⟨RX9, "keyOfWord", "()I"⟩
abbrev cX9_isWord : ByteArray := prog_11_method_24_code
def yX9_isWord : MethodName := ⟨RX9, "isWord", "(Ljava/lang/String;)Z"⟩
def RX10 : String := "MiddleOfCourt$Text"
def TX10 : u_T := fun k => match k with
  | 0 => ("MiddleOfCourt$Text", "place", "I", true)
  | 1 => ("MiddleOfCourt$Text", "code", "[I", true)
  | 2 => ("MiddleOfCourt$Text", "stack", "[I", true)
  | 3 => ("MiddleOfCourt$Text", "names", "[I", true)
  | 4 => ("MiddleOfCourt$Text", "ends", "[I", true)
  | _ => ("MiddleOfCourt$Text", "size", "I", false)
def tyX10 : Nat → FieldType := fun k => match k with
  | 0 => .int
  | 1 => .array .int
  | 2 => .array .int
  | 3 => .array .int
  | 4 => .array .int
  | _ => .int
theorem nmX10 : ∀ a, a < 6 → ∀ b, b < 6 → a ≠ b → (TX10 a).2.1 ≠ (TX10 b).2.1 := by decide +kernel
theorem tyX10_ok : ∀ k, k < 6 → parseFieldDescriptor (TX10 k).2.2.1 = some (tyX10 k) := by decide +kernel
abbrev cX10_init : ByteArray := prog_12_method_1_code
def yX10_init : MethodName := ⟨RX10, "<init>", "(I)V"⟩
abbrev cX10_clear : ByteArray := prog_12_method_2_code
def yX10_clear : MethodName := ⟨RX10, "clear", "()V"⟩
abbrev cX10_add : ByteArray := prog_12_method_3_code
def yX10_add : MethodName := ⟨RX10, "add", "(I)V"⟩
abbrev cX10_endPart : ByteArray := prog_12_method_4_code
def yX10_endPart : MethodName := ⟨RX10, "endPart", "(I)V"⟩
abbrev cX10_reckon : ByteArray := prog_12_method_5_code
def yX10_reckon : MethodName := ⟨RX10, "reckon", "(ILMiddleOfCourt$Player;IIII)I"⟩
abbrev cX10_work : ByteArray := prog_12_method_6_code
def yX10_work : MethodName := ⟨RX10, "work", "(II)I"⟩
abbrev cX10_join : ByteArray := prog_12_method_7_code
def yX10_join : MethodName := ⟨RX10, "join", "(III)I"⟩
def RX11 : String := "MiddleOfCourt"
def TX11 : u_T := fun k => match k with
  | 0 => ("MiddleOfCourt", "texts", "[LMiddleOfCourt$Text;", true)
  | 1 => ("MiddleOfCourt", "tape", "LMiddleOfCourt$Tape;", true)
  | 2 => ("MiddleOfCourt", "textCount", "I", false)
  | 3 => ("MiddleOfCourt", "strokeRow", "[LMiddleOfCourt$Stroke;", true)
  | 4 => ("MiddleOfCourt", "strokeCount", "I", false)
  | 5 => ("MiddleOfCourt", "court", "LMiddleOfCourt$Court;", true)
  | 6 => ("MiddleOfCourt", "thought", "LMiddleOfCourt$Court;", true)
  | 7 => ("MiddleOfCourt", "ahead", "[LMiddleOfCourt$Court;", true)
  | 8 => ("MiddleOfCourt", "imageCourt", "LMiddleOfCourt$Court;", true)
  | 9 => ("MiddleOfCourt", "imageNumbers", "[I", true)
  | 10 => ("MiddleOfCourt", "imageAims", "[I", true)
  | 11 => ("MiddleOfCourt", "imageStrokes", "I", false)
  | 12 => ("MiddleOfCourt", "sheets", "[LMiddleOfCourt$Sheet;", true)
  | 13 => ("MiddleOfCourt", "landed", "[I", true)
  | 14 => ("MiddleOfCourt", "struck", "I", false)
  | 15 => ("MiddleOfCourt", "odds", "J", false)
  | 16 => ("MiddleOfCourt", "blockedAt", "I", false)
  | 17 => ("MiddleOfCourt", "chosen", "I", false)
  | _ => ("MiddleOfCourt", "firstRow", "I", false)
def tyX11 : Nat → FieldType := fun k => match k with
  | 0 => .array (.object "MiddleOfCourt$Text")
  | 1 => .object "MiddleOfCourt$Tape"
  | 2 => .int
  | 3 => .array (.object "MiddleOfCourt$Stroke")
  | 4 => .int
  | 5 => .object "MiddleOfCourt$Court"
  | 6 => .object "MiddleOfCourt$Court"
  | 7 => .array (.object "MiddleOfCourt$Court")
  | 8 => .object "MiddleOfCourt$Court"
  | 9 => .array .int
  | 10 => .array .int
  | 11 => .int
  | 12 => .array (.object "MiddleOfCourt$Sheet")
  | 13 => .array .int
  | 14 => .int
  | 15 => .long
  | 16 => .int
  | 17 => .int
  | _ => .int
theorem nmX11 : ∀ a, a < 19 → ∀ b, b < 19 → a ≠ b → (TX11 a).2.1 ≠ (TX11 b).2.1 := by decide +kernel
theorem tyX11_ok : ∀ k, k < 19 → parseFieldDescriptor (TX11 k).2.2.1 = some (tyX11 k) := by decide +kernel
abbrev cX11_init : ByteArray := prog_1_method_1_code
def yX11_init : MethodName := ⟨RX11, "<init>", "()V"⟩
abbrev cX11_set : ByteArray := prog_1_method_2_code
def yX11_set : MethodName := ⟨RX11, "set", "(III)I"⟩
abbrev cX11_stroke : ByteArray := prog_1_method_3_code
def yX11_stroke : MethodName := ⟨RX11, "stroke", "(III)I"⟩
abbrev cX11_told : ByteArray := prog_1_method_4_code
def yX11_told : MethodName := ⟨RX11, "told", "(II)I"⟩
abbrev cX11_shot : ByteArray := prog_1_method_5_code
def yX11_shot : MethodName := ⟨RX11, "shot", "(III)I"⟩
abbrev cX11_needs : ByteArray := prog_1_method_6_code
def yX11_needs : MethodName := ⟨RX11, "needs", "(II)I"⟩
abbrev cX11_feed : ByteArray := prog_1_method_7_code
def yX11_feed : MethodName := ⟨RX11, "feed", "(I)I"⟩
abbrev cX11_text : ByteArray := prog_1_method_8_code
def yX11_text : MethodName := ⟨RX11, "text", "()I"⟩
abbrev cX11_force : ByteArray := prog_1_method_9_code
def yX11_force : MethodName := ⟨RX11, "force", "(I)I"⟩
abbrev cX11_rally : ByteArray := prog_1_method_10_code
def yX11_rally : MethodName := ⟨RX11, "rally", "(II)I"⟩
abbrev cX11_play : ByteArray := prog_1_method_11_code
def yX11_play : MethodName := ⟨RX11, "play", "(I)I"⟩
abbrev cX11_likely : ByteArray := prog_1_method_12_code
def yX11_likely : MethodName := ⟨RX11, "likely", "(I)J"⟩
abbrev cX11_best : ByteArray := prog_1_method_13_code
def yX11_best : MethodName := ⟨RX11, "best", "(III)I"⟩
abbrev cX11_sure : ByteArray := prog_1_method_14_code
def yX11_sure : MethodName := ⟨RX11, "sure", "(I)I"⟩
abbrev cX11_stand : ByteArray := prog_1_method_15_code
def yX11_stand : MethodName := ⟨RX11, "stand", "(II)I"⟩
abbrev cX11_tires : ByteArray := prog_1_method_16_code
def yX11_tires : MethodName := ⟨RX11, "tires", "(I)I"⟩
abbrev cX11_inTheWay : ByteArray := prog_1_method_17_code
def yX11_inTheWay : MethodName := ⟨RX11, "inTheWay", "(I)I"⟩
abbrev cX11_balls : ByteArray := prog_1_method_18_code
def yX11_balls : MethodName := ⟨RX11, "balls", "(II)I"⟩
abbrev cX11_quicks : ByteArray := prog_1_method_19_code
def yX11_quicks : MethodName := ⟨RX11, "quicks", "(III)I"⟩
abbrev cX11_film : ByteArray := prog_1_method_20_code
def yX11_film : MethodName := ⟨RX11, "film", "(II)I"⟩
abbrev cX11_drawn : ByteArray := prog_1_method_21_code
def yX11_drawn : MethodName := ⟨RX11, "drawn", "(I)I"⟩
abbrev cX11_chance : ByteArray := prog_1_method_22_code
def yX11_chance : MethodName := ⟨RX11, "chance", "(III)J"⟩
abbrev cX11_image : ByteArray := prog_1_method_23_code
def yX11_image : MethodName := ⟨RX11, "image", "()I"⟩
abbrev cX11_back : ByteArray := prog_1_method_24_code
def yX11_back : MethodName := ⟨RX11, "back", "()I"⟩
abbrev cX11_count : ByteArray := prog_1_method_25_code
def yX11_count : MethodName := ⟨RX11, "count", "(I)I"⟩
abbrev cX11_sheet : ByteArray := prog_1_method_26_code
def yX11_sheet : MethodName := ⟨RX11, "sheet", "(III)I"⟩
abbrev cX11_cell : ByteArray := prog_1_method_27_code
def yX11_cell : MethodName := ⟨RX11, "cell", "(III)I"⟩
abbrev cX11_copy : ByteArray := prog_1_method_28_code
def yX11_copy : MethodName := ⟨RX11, "copy", "(IIIII)I"⟩
abbrev cX11_strokes : ByteArray := prog_1_method_29_code
def yX11_strokes : MethodName := ⟨RX11, "strokes", "(IIII)I"⟩
abbrev cX11_taken : ByteArray := prog_1_method_30_code
def yX11_taken : MethodName := ⟨RX11, "taken", "(II)I"⟩
abbrev cX11_isPlayer : ByteArray := prog_1_method_31_code
def yX11_isPlayer : MethodName := ⟨RX11, "isPlayer", "(I)Z"⟩
abbrev cX11_isCell : ByteArray := prog_1_method_32_code
def yX11_isCell : MethodName := ⟨RX11, "isCell", "(I)Z"⟩
abbrev cX11_strokeAt : ByteArray := prog_1_method_33_code
def yX11_strokeAt : MethodName := ⟨RX11, "strokeAt", "(I)LMiddleOfCourt$Stroke;"⟩
abbrev cX11_sheetAt : ByteArray := prog_1_method_34_code
def yX11_sheetAt : MethodName := ⟨RX11, "sheetAt", "(I)LMiddleOfCourt$Sheet;"⟩
abbrev cX11_fits : ByteArray := prog_1_method_35_code
def yX11_fits : MethodName := ⟨RX11, "fits", "(II)Z"⟩
abbrev cX11_newStroke : ByteArray := prog_1_method_36_code
def yX11_newStroke : MethodName := ⟨RX11, "newStroke", "(III)LMiddleOfCourt$Stroke;"⟩
abbrev cX11_isUnder : ByteArray := prog_1_method_37_code
def yX11_isUnder : MethodName := ⟨RX11, "isUnder", "(LMiddleOfCourt$Stroke;I)Z"⟩
abbrev cX11_apart : ByteArray := prog_1_method_38_code
def yX11_apart : MethodName := ⟨RX11, "apart", "(II)I"⟩
abbrev cX11_across : ByteArray := prog_1_method_39_code
def yX11_across : MethodName := ⟨RX11, "across", "(I)I"⟩
abbrev cX11_within : ByteArray := prog_1_method_40_code
def yX11_within : MethodName := ⟨RX11, "within", "(II)I"⟩
abbrev cX11_goesOver : ByteArray := prog_1_method_41_code
def yX11_goesOver : MethodName := ⟨RX11, "goesOver", "(III)Z"⟩
abbrev cX11_refusalOfRally : ByteArray := prog_1_method_42_code
def yX11_refusalOfRally : MethodName := ⟨RX11, "refusalOfRally", "(I)I"⟩
abbrev cX11_playInThought : ByteArray := prog_1_method_43_code
def yX11_playInThought : MethodName := ⟨RX11, "playInThought", "(I)I"⟩
abbrev cX11_playOut : ByteArray := prog_1_method_44_code
def yX11_playOut : MethodName := ⟨RX11, "playOut", "(LMiddleOfCourt$Court;LMiddleOfCourt$Sheet;)I"⟩
abbrev cX11_valueFor : ByteArray := prog_1_method_45_code
def yX11_valueFor : MethodName := ⟨RX11, "valueFor", "(LMiddleOfCourt$Court;III)I"⟩
abbrev cX11_valueBy : ByteArray := prog_1_method_46_code
def yX11_valueBy : MethodName := ⟨RX11, "valueBy", "(LMiddleOfCourt$Court;ILMiddleOfCourt$Stroke;II)I"⟩
abbrev cX11_badness : ByteArray := prog_1_method_47_code
def yX11_badness : MethodName := ⟨RX11, "badness", "(II)I"⟩
abbrev cX11_rowsBy : ByteArray := prog_1_method_48_code
def yX11_rowsBy : MethodName := ⟨RX11, "rowsBy", "(LMiddleOfCourt$Court;LMiddleOfCourt$Sheet;II)I"⟩
abbrev cX11_quicksBy : ByteArray := prog_1_method_49_code
def yX11_quicksBy : MethodName := ⟨RX11, "quicksBy", "(LMiddleOfCourt$Sheet;II)I"⟩
abbrev cX11_rulesBy : ByteArray := prog_1_method_50_code
def yX11_rulesBy : MethodName := ⟨RX11, "rulesBy", "(LMiddleOfCourt$Sheet;I)I"⟩
def RX12 : String := "MiddleOfCourtModel"
def TX12 : u_T := fun k => match k with
  | 0 => ("MiddleOfCourtModel", "thrown", "I", false)
  | 1 => ("MiddleOfCourtModel", "texts", "[I", true)
  | 2 => ("MiddleOfCourtModel", "textSize", "[I", true)
  | 3 => ("MiddleOfCourtModel", "textCount", "I", false)
  | 4 => ("MiddleOfCourtModel", "rule", "I", false)
  | 5 => ("MiddleOfCourtModel", "tape", "[I", true)
  | 6 => ("MiddleOfCourtModel", "taped", "I", false)
  | 7 => ("MiddleOfCourtModel", "cells", "[I", true)
  | 8 => ("MiddleOfCourtModel", "legs", "[I", true)
  | 9 => ("MiddleOfCourtModel", "quick", "[I", true)
  | 10 => ("MiddleOfCourtModel", "homes", "[I", true)
  | 11 => ("MiddleOfCourtModel", "warmth", "I", false)
  | 12 => ("MiddleOfCourtModel", "kinds", "[I", true)
  | 13 => ("MiddleOfCourtModel", "numbers", "[I", true)
  | 14 => ("MiddleOfCourtModel", "aims", "[I", true)
  | 15 => ("MiddleOfCourtModel", "strokeMany", "I", false)
  | 16 => ("MiddleOfCourtModel", "ofFar", "I", false)
  | 17 => ("MiddleOfCourtModel", "ofWarm", "I", false)
  | 18 => ("MiddleOfCourtModel", "ofLegs", "I", false)
  | 19 => ("MiddleOfCourtModel", "ofQuick", "I", false)
  | 20 => ("MiddleOfCourtModel", "ofNumber", "I", false)
  | 21 => ("MiddleOfCourtModel", "ofCell", "I", false)
  | 22 => ("MiddleOfCourtModel", "from", "I", false)
  | 23 => ("MiddleOfCourtModel", "size", "I", false)
  | 24 => ("MiddleOfCourtModel", "here", "I", false)
  | 25 => ("MiddleOfCourtModel", "token", "I", false)
  | 26 => ("MiddleOfCourtModel", "tokenAt", "I", false)
  | 27 => ("MiddleOfCourtModel", "tokenWorth", "J", false)
  | 28 => ("MiddleOfCourtModel", "open", "I", false)
  | 29 => ("MiddleOfCourtModel", "bad", "Z", false)
  | 30 => ("MiddleOfCourtModel", "fault", "I", false)
  | 31 => ("MiddleOfCourtModel", "cameTo", "I", false)
  | 32 => ("MiddleOfCourtModel", "aside", "[I", true)
  | 33 => ("MiddleOfCourtModel", "asideMany", "I", false)
  | 34 => ("MiddleOfCourtModel", "wins", "I", false)
  | 35 => ("MiddleOfCourtModel", "struck", "I", false)
  | 36 => ("MiddleOfCourtModel", "likelyNow", "J", false)
  | 37 => ("MiddleOfCourtModel", "wayAt", "I", false)
  | 38 => ("MiddleOfCourtModel", "ballRow", "[I", true)
  | 39 => ("MiddleOfCourtModel", "bestStroke", "I", false)
  | 40 => ("MiddleOfCourtModel", "rowsMany", "I", false)
  | 41 => ("MiddleOfCourtModel", "rowsFirst", "I", false)
  | 42 => ("MiddleOfCourtModel", "playersKept", "[I", true)
  | 43 => ("MiddleOfCourtModel", "strokesKept", "[I", true)
  | 44 => ("MiddleOfCourtModel", "manyKept", "I", false)
  | 45 => ("MiddleOfCourtModel", "warmKept", "I", false)
  | 46 => ("MiddleOfCourtModel", "ruleKept", "I", false)
  | 47 => ("MiddleOfCourtModel", "isThere", "[Z", true)
  | 48 => ("MiddleOfCourtModel", "sorts", "[I", true)
  | 49 => ("MiddleOfCourtModel", "sheetSize", "[I", true)
  | _ => ("MiddleOfCourtModel", "items", "[I", true)
def tyX12 : Nat → FieldType := fun k => match k with
  | 0 => .int
  | 1 => .array .int
  | 2 => .array .int
  | 3 => .int
  | 4 => .int
  | 5 => .array .int
  | 6 => .int
  | 7 => .array .int
  | 8 => .array .int
  | 9 => .array .int
  | 10 => .array .int
  | 11 => .int
  | 12 => .array .int
  | 13 => .array .int
  | 14 => .array .int
  | 15 => .int
  | 16 => .int
  | 17 => .int
  | 18 => .int
  | 19 => .int
  | 20 => .int
  | 21 => .int
  | 22 => .int
  | 23 => .int
  | 24 => .int
  | 25 => .int
  | 26 => .int
  | 27 => .long
  | 28 => .int
  | 29 => .boolean
  | 30 => .int
  | 31 => .int
  | 32 => .array .int
  | 33 => .int
  | 34 => .int
  | 35 => .int
  | 36 => .long
  | 37 => .int
  | 38 => .array .int
  | 39 => .int
  | 40 => .int
  | 41 => .int
  | 42 => .array .int
  | 43 => .array .int
  | 44 => .int
  | 45 => .int
  | 46 => .int
  | 47 => .array .boolean
  | 48 => .array .int
  | 49 => .array .int
  | _ => .array .int
theorem nmX12 : ∀ a, a < 51 → ∀ b, b < 51 → a ≠ b → (TX12 a).2.1 ≠ (TX12 b).2.1 := by decide +kernel
theorem tyX12_ok : ∀ k, k < 51 → parseFieldDescriptor (TX12 k).2.2.1 = some (tyX12 k) := by decide +kernel
abbrev cX12_in : ByteArray := prog_14_method_2_code
def yX12_in : MethodName := ⟨RX12, "in", "(JJJ)Z"⟩
abbrev cX12_within : ByteArray := prog_14_method_3_code
def yX12_within : MethodName := ⟨RX12, "within", "(III)I"⟩
abbrev cX12_init : ByteArray := prog_14_method_4_code
def yX12_init : MethodName := ⟨RX12, "<init>", "()V"⟩
abbrev cX12_spell : ByteArray := prog_14_method_5_code
def yX12_spell : MethodName := ⟨RX12, "spell", "(IIIIIIIII)V"⟩
abbrev cX12_isStroke : ByteArray := prog_14_method_6_code
def yX12_isStroke : MethodName := ⟨RX12, "isStroke", "(I)Z"⟩
abbrev cX12_isPlayer : ByteArray := prog_14_method_7_code
def yX12_isPlayer : MethodName := ⟨RX12, "isPlayer", "(I)Z"⟩
abbrev cX12_isCell : ByteArray := prog_14_method_8_code
def yX12_isCell : MethodName := ⟨RX12, "isCell", "(I)Z"⟩
abbrev cX12_set : ByteArray := prog_14_method_9_code
def yX12_set : MethodName := ⟨RX12, "set", "(III)I"⟩
abbrev cX12_stroke : ByteArray := prog_14_method_10_code
def yX12_stroke : MethodName := ⟨RX12, "stroke", "(III)I"⟩
abbrev cX12_told : ByteArray := prog_14_method_11_code
def yX12_told : MethodName := ⟨RX12, "told", "(II)I"⟩
abbrev cX12_feed : ByteArray := prog_14_method_12_code
def yX12_feed : MethodName := ⟨RX12, "feed", "(I)I"⟩
abbrev cX12_byteAt : ByteArray := prog_14_method_13_code
def yX12_byteAt : MethodName := ⟨RX12, "byteAt", "(I)I"⟩
abbrev cX12_next : ByteArray := prog_14_method_14_code
def yX12_next : MethodName := ⟨RX12, "next", "()V"⟩
abbrev cX12_fail : ByteArray := prog_14_method_15_code
def yX12_fail : MethodName := ⟨RX12, "fail", "()V"⟩
abbrev cX12_isLetter : ByteArray := prog_14_method_16_code
def yX12_isLetter : MethodName := ⟨RX12, "isLetter", "(II)Z"⟩
abbrev cX12_isWord : ByteArray := prog_14_method_17_code
def yX12_isWord : MethodName := ⟨RX12, "isWord", "(IIIIIIII)Z"⟩
abbrev cX12_isSign : ByteArray := prog_14_method_18_code
def yX12_isSign : MethodName := ⟨RX12, "isSign", "(I)Z"⟩
abbrev cX12_opens : ByteArray := prog_14_method_19_code
def yX12_opens : MethodName := ⟨RX12, "opens", "()Z"⟩
abbrev cX12_name : ByteArray := prog_14_method_20_code
def yX12_name : MethodName := ⟨RX12, "name", "()I"⟩
abbrev cX12_atom : ByteArray := prog_14_method_21_code
def yX12_atom : MethodName := ⟨RX12, "atom", "()I"⟩
abbrev cX12_term : ByteArray := prog_14_method_22_code
def yX12_term : MethodName := ⟨RX12, "term", "()I"⟩
abbrev cX12_added : ByteArray := prog_14_method_23_code
def yX12_added : MethodName := ⟨RX12, "added", "()I"⟩
abbrev cX12_not : ByteArray := prog_14_method_24_code
def yX12_not : MethodName := ⟨RX12, "not", "()I"⟩
abbrev cX12_both : ByteArray := prog_14_method_25_code
def yX12_both : MethodName := ⟨RX12, "both", "()I"⟩
abbrev cX12_either : ByteArray := prog_14_method_26_code
def yX12_either : MethodName := ⟨RX12, "either", "()I"⟩
abbrev cX12_part : ByteArray := prog_14_method_27_code
def yX12_part : MethodName := ⟨RX12, "part", "(Z)I"⟩
abbrev cX12_read : ByteArray := prog_14_method_28_code
def yX12_read : MethodName := ⟨RX12, "read", "(II)I"⟩
abbrev cX12_text : ByteArray := prog_14_method_29_code
def yX12_text : MethodName := ⟨RX12, "text", "()I"⟩
abbrev cX12_force : ByteArray := prog_14_method_30_code
def yX12_force : MethodName := ⟨RX12, "force", "(I)I"⟩
abbrev cX12_says : ByteArray := prog_14_method_31_code
def yX12_says : MethodName := ⟨RX12, "says", "(IIIII)I"⟩
abbrev cX12_plain : ByteArray := prog_14_method_32_code
def yX12_plain : MethodName := ⟨RX12, "plain", "(I)I"⟩
abbrev cX12_farOf : ByteArray := prog_14_method_33_code
def yX12_farOf : MethodName := ⟨RX12, "farOf", "(II)I"⟩
abbrev cX12_across : ByteArray := prog_14_method_34_code
def yX12_across : MethodName := ⟨RX12, "across", "(I)I"⟩
abbrev cX12_comesTo : ByteArray := prog_14_method_35_code
def yX12_comesTo : MethodName := ⟨RX12, "comesTo", "(II)I"⟩
abbrev cX12_tenthsOf : ByteArray := prog_14_method_36_code
def yX12_tenthsOf : MethodName := ⟨RX12, "tenthsOf", "(II)I"⟩
abbrev cX12_slipsOf : ByteArray := prog_14_method_37_code
def yX12_slipsOf : MethodName := ⟨RX12, "slipsOf", "(II)I"⟩
abbrev cX12_spendsOf : ByteArray := prog_14_method_38_code
def yX12_spendsOf : MethodName := ⟨RX12, "spendsOf", "(I)I"⟩
abbrev cX12_needsOf : ByteArray := prog_14_method_39_code
def yX12_needsOf : MethodName := ⟨RX12, "needsOf", "(III)I"⟩
abbrev cX12_needs : ByteArray := prog_14_method_40_code
def yX12_needs : MethodName := ⟨RX12, "needs", "(II)I"⟩
abbrev cX12_shot : ByteArray := prog_14_method_41_code
def yX12_shot : MethodName := ⟨RX12, "shot", "(III)I"⟩
abbrev cX12_tire : ByteArray := prog_14_method_42_code
def yX12_tire : MethodName := ⟨RX12, "tire", "(II)V"⟩
abbrev cX12_strikes : ByteArray := prog_14_method_43_code
def yX12_strikes : MethodName := ⟨RX12, "strikes", "(II)Z"⟩
abbrev cX12_layAside : ByteArray := prog_14_method_44_code
def yX12_layAside : MethodName := ⟨RX12, "layAside", "()V"⟩
abbrev cX12_takeBack : ByteArray := prog_14_method_45_code
def yX12_takeBack : MethodName := ⟨RX12, "takeBack", "()V"⟩
abbrev cX12_goesOver : ByteArray := prog_14_method_46_code
def yX12_goesOver : MethodName := ⟨RX12, "goesOver", "(III)Z"⟩
abbrev cX12_rallies : ByteArray := prog_14_method_47_code
def yX12_rallies : MethodName := ⟨RX12, "rallies", "(I)V"⟩
abbrev cX12_rallyBad : ByteArray := prog_14_method_48_code
def yX12_rallyBad : MethodName := ⟨RX12, "rallyBad", "(I)I"⟩
abbrev cX12_rally : ByteArray := prog_14_method_49_code
def yX12_rally : MethodName := ⟨RX12, "rally", "(II)I"⟩
abbrev cX12_play : ByteArray := prog_14_method_50_code
def yX12_play : MethodName := ⟨RX12, "play", "(I)I"⟩
abbrev cX12_likely : ByteArray := prog_14_method_51_code
def yX12_likely : MethodName := ⟨RX12, "likely", "(I)J"⟩
abbrev cX12_valueOf : ByteArray := prog_14_method_52_code
def yX12_valueOf : MethodName := ⟨RX12, "valueOf", "(II)I"⟩
abbrev cX12_best : ByteArray := prog_14_method_53_code
def yX12_best : MethodName := ⟨RX12, "best", "(III)I"⟩
abbrev cX12_sure : ByteArray := prog_14_method_54_code
def yX12_sure : MethodName := ⟨RX12, "sure", "(I)I"⟩
abbrev cX12_badness : ByteArray := prog_14_method_55_code
def yX12_badness : MethodName := ⟨RX12, "badness", "(II)I"⟩
abbrev cX12_stand : ByteArray := prog_14_method_56_code
def yX12_stand : MethodName := ⟨RX12, "stand", "(II)I"⟩
abbrev cX12_tires : ByteArray := prog_14_method_57_code
def yX12_tires : MethodName := ⟨RX12, "tires", "(I)I"⟩
abbrev cX12_inTheWay : ByteArray := prog_14_method_58_code
def yX12_inTheWay : MethodName := ⟨RX12, "inTheWay", "(I)I"⟩
abbrev cX12_goesOn : ByteArray := prog_14_method_59_code
def yX12_goesOn : MethodName := ⟨RX12, "goesOn", "(III)V"⟩
abbrev cX12_balls : ByteArray := prog_14_method_60_code
def yX12_balls : MethodName := ⟨RX12, "balls", "(II)I"⟩
abbrev cX12_winsSo : ByteArray := prog_14_method_61_code
def yX12_winsSo : MethodName := ⟨RX12, "winsSo", "(II)Z"⟩
abbrev cX12_quicks : ByteArray := prog_14_method_62_code
def yX12_quicks : MethodName := ⟨RX12, "quicks", "(III)I"⟩
abbrev cX12_tries : ByteArray := prog_14_method_63_code
def yX12_tries : MethodName := ⟨RX12, "tries", "(II)V"⟩
abbrev cX12_film : ByteArray := prog_14_method_64_code
def yX12_film : MethodName := ⟨RX12, "film", "(II)I"⟩
abbrev cX12_draws : ByteArray := prog_14_method_65_code
def yX12_draws : MethodName := ⟨RX12, "draws", "(I)I"⟩
abbrev cX12_drawn : ByteArray := prog_14_method_66_code
def yX12_drawn : MethodName := ⟨RX12, "drawn", "(I)I"⟩
abbrev cX12_chance : ByteArray := prog_14_method_67_code
def yX12_chance : MethodName := ⟨RX12, "chance", "(III)J"⟩
abbrev cX12_image : ByteArray := prog_14_method_68_code
def yX12_image : MethodName := ⟨RX12, "image", "()I"⟩
abbrev cX12_back : ByteArray := prog_14_method_69_code
def yX12_back : MethodName := ⟨RX12, "back", "()I"⟩
abbrev cX12_count : ByteArray := prog_14_method_70_code
def yX12_count : MethodName := ⟨RX12, "count", "(I)I"⟩
abbrev cX12_isSheet : ByteArray := prog_14_method_71_code
def yX12_isSheet : MethodName := ⟨RX12, "isSheet", "(I)Z"⟩
abbrev cX12_sheet : ByteArray := prog_14_method_72_code
def yX12_sheet : MethodName := ⟨RX12, "sheet", "(III)I"⟩
abbrev cX12_cell : ByteArray := prog_14_method_73_code
def yX12_cell : MethodName := ⟨RX12, "cell", "(III)I"⟩
abbrev cX12_copy : ByteArray := prog_14_method_74_code
def yX12_copy : MethodName := ⟨RX12, "copy", "(IIIII)I"⟩
abbrev cX12_strokes : ByteArray := prog_14_method_75_code
def yX12_strokes : MethodName := ⟨RX12, "strokes", "(IIII)I"⟩
abbrev cX12_over : ByteArray := prog_14_method_76_code
def yX12_over : MethodName := ⟨RX12, "over", "(I)I"⟩
abbrev cX12_taken : ByteArray := prog_14_method_77_code
def yX12_taken : MethodName := ⟨RX12, "taken", "(II)I"⟩
def RJ6 : String := "java/lang/Integer"
abbrev cJ6_compare_7cf53 : ByteArray := prog_15_method_40_code
def yJ6_compare_7cf53 : MethodName := ⟨RJ6, "compare", "(II)I"⟩
def RJ9 : String := "java/lang/Math"
abbrev cJ9_abs_0f7a4 : ByteArray := prog_16_method_59_code
def yJ9_abs_0f7a4 : MethodName := ⟨RJ9, "abs", "(I)I"⟩
abbrev cJ9_max_7cf53 : ByteArray := prog_16_method_65_code
def yJ9_max_7cf53 : MethodName := ⟨RJ9, "max", "(II)I"⟩
abbrev cJ9_min_7cf53 : ByteArray := prog_16_method_69_code
def yJ9_min_7cf53 : MethodName := ⟨RJ9, "min", "(II)I"⟩
def RJ0 : String := "java/lang/String"
abbrev cJ0_length_8abf5 : ByteArray := prog_17_method_54_code
def yJ0_length_8abf5 : MethodName := ⟨RJ0, "length", "()I"⟩
abbrev cJ0_charAt_5068e : ByteArray := prog_17_method_56_code
def yJ0_charAt_5068e : MethodName := ⟨RJ0, "charAt", "(I)C"⟩
abbrev cJ0_coder_7d493 : ByteArray := prog_17_method_152_code
def yJ0_coder_7d493 : MethodName := ⟨RJ0, "coder", "()B"⟩
abbrev cJ0_isLatin1_aae02 : ByteArray := prog_17_method_154_code
def yJ0_isLatin1_aae02 : MethodName := ⟨RJ0, "isLatin1", "()Z"⟩
abbrev cJ0_checkIndex_df160 : ByteArray := prog_17_method_155_code
def yJ0_checkIndex_df160 : MethodName := ⟨RJ0, "checkIndex", "(II)V"⟩
def RJ1 : String := "java/lang/StringLatin1"
abbrev cJ1_charAt_3b067 : ByteArray := prog_18_method_2_code
def yJ1_charAt_3b067 : MethodName := ⟨RJ1, "charAt", "([BI)C"⟩
def RJ2 : String := "java/lang/StringUTF16"
abbrev cJ2_getChar_3b067 : ByteArray := prog_19_method_5_code
def yJ2_getChar_3b067 : MethodName := ⟨RJ2, "getChar", "([BI)C"⟩
abbrev cJ2_length_9d52b : ByteArray := prog_19_method_6_code
def yJ2_length_9d52b : MethodName := ⟨RJ2, "length", "([B)I"⟩
abbrev cJ2_charAt_3b067 : ByteArray := prog_19_method_83_code
def yJ2_charAt_3b067 : MethodName := ⟨RJ2, "charAt", "([BI)C"⟩
abbrev cJ2_checkIndex_2214a : ByteArray := prog_19_method_91_code
def yJ2_checkIndex_2214a : MethodName := ⟨RJ2, "checkIndex", "(I[B)V"⟩
def RJ10 : String := "java/lang/System"
def RJ3 : String := "jdk/internal/util/Preconditions"
abbrev cJ3_checkIndex_8e157 : ByteArray := prog_21_method_11_code
def yJ3_checkIndex_8e157 : MethodName := ⟨RJ3, "checkIndex", "(IILjava/util/function/BiFunction;)I"⟩
def RL : String := "MiddleOfCourtLaw"
abbrev cL_law : ByteArray := code
def yL_law : MethodName := ⟨RL, "law", "([I)Z"⟩
abbrev vwCl : List vw_C := [(RX0, TX0, 2), (RX1, TX1, 4), (RX2, TX2, 2), (RX3, TX3, 2), (RX4, TX4, 2), (RX5, TX5, 2), (RX6, TX6, 4), (RX7, TX7, 3), (RX8, TX8, 2), (RX9, TX9, 8), (RX10, TX10, 6), (RX11, TX11, 19), (RX12, TX12, 51)]
def TBL : List Cond := lw_tbl.filter goodWord
theorem TBL_of {w : Cond} (i : Nat) (h : lw_tbl[i]? = some w) (g : goodWord w = true) : w ∈ TBL := List.mem_filter.mpr ⟨List.mem_of_getElem? h, g⟩
end
section
theorem tb_0 : Cond.selects "MiddleOfCourt$Tape" ⟨"MiddleOfCourt$Tape", "next", "()V"⟩ ⟨"MiddleOfCourt$Tape", "next", "()V"⟩ ∈ TBL := TBL_of 0 (by decide +kernel) (by decide +kernel)
theorem tb_1 : Cond.selects "MiddleOfCourt$Tape" ⟨"MiddleOfCourt$Tape", "letterAt", "(I)I"⟩ ⟨"MiddleOfCourt$Tape", "letterAt", "(I)I"⟩ ∈ TBL := TBL_of 1 (by decide +kernel) (by decide +kernel)
theorem tb_2 : Cond.selects "MiddleOfCourt$Tape" ⟨"MiddleOfCourt$Tape", "nextWord", "()V"⟩ ⟨"MiddleOfCourt$Tape", "nextWord", "()V"⟩ ∈ TBL := TBL_of 2 (by decide +kernel) (by decide +kernel)
theorem tb_3 : Cond.selects "MiddleOfCourt$Tape" ⟨"MiddleOfCourt$Tape", "nameOfWord", "()I"⟩ ⟨"MiddleOfCourt$Tape", "nameOfWord", "()I"⟩ ∈ TBL := TBL_of 3 (by decide +kernel) (by decide +kernel)
theorem tb_4 : Cond.selects "MiddleOfCourt$Tape" ⟨"MiddleOfCourt$Tape", "isWord", "(Ljava/lang/String;)Z"⟩ ⟨"MiddleOfCourt$Tape", "isWord", "(Ljava/lang/String;)Z"⟩ ∈ TBL := TBL_of 4 (by decide +kernel) (by decide +kernel)
theorem tb_5 : Cond.selects "MiddleOfCourt$Tape" ⟨"MiddleOfCourt$Tape", "keyOfWord", "()I"⟩ ⟨"MiddleOfCourt$Tape", "keyOfWord", "()I"⟩ ∈ TBL := TBL_of 5 (by decide +kernel) (by decide +kernel)
theorem tb_6 : Cond.selects "MiddleOfCourt$Tape" ⟨"MiddleOfCourt$Tape", "nextNumber", "()V"⟩ ⟨"MiddleOfCourt$Tape", "nextNumber", "()V"⟩ ∈ TBL := TBL_of 6 (by decide +kernel) (by decide +kernel)
theorem tb_7 : Cond.selects "MiddleOfCourt$Tape" ⟨"MiddleOfCourt$Tape", "expect", "(I)V"⟩ ⟨"MiddleOfCourt$Tape", "expect", "(I)V"⟩ ∈ TBL := TBL_of 7 (by decide +kernel) (by decide +kernel)
theorem tb_8 : Cond.selects "MiddleOfCourt$Tape" ⟨"MiddleOfCourt$Tape", "fail", "()V"⟩ ⟨"MiddleOfCourt$Tape", "fail", "()V"⟩ ∈ TBL := TBL_of 8 (by decide +kernel) (by decide +kernel)
theorem tb_9 : Cond.selects "MiddleOfCourt$Tape" ⟨"MiddleOfCourt$Tape", "readEither", "(I)V"⟩ ⟨"MiddleOfCourt$Tape", "readEither", "(I)V"⟩ ∈ TBL := TBL_of 9 (by decide +kernel) (by decide +kernel)
theorem tb_10 : Cond.selects "MiddleOfCourt$Tape" ⟨"MiddleOfCourt$Tape", "readBoth", "(I)V"⟩ ⟨"MiddleOfCourt$Tape", "readBoth", "(I)V"⟩ ∈ TBL := TBL_of 10 (by decide +kernel) (by decide +kernel)
theorem tb_11 : Cond.selects "MiddleOfCourt$Tape" ⟨"MiddleOfCourt$Tape", "readNot", "(I)V"⟩ ⟨"MiddleOfCourt$Tape", "readNot", "(I)V"⟩ ∈ TBL := TBL_of 11 (by decide +kernel) (by decide +kernel)
theorem tb_12 : Cond.selects "MiddleOfCourt$Tape" ⟨"MiddleOfCourt$Tape", "opens", "(I)Z"⟩ ⟨"MiddleOfCourt$Tape", "opens", "(I)Z"⟩ ∈ TBL := TBL_of 12 (by decide +kernel) (by decide +kernel)
theorem tb_13 : Cond.selects "MiddleOfCourt$Tape" ⟨"MiddleOfCourt$Tape", "emit", "(I)V"⟩ ⟨"MiddleOfCourt$Tape", "emit", "(I)V"⟩ ∈ TBL := TBL_of 13 (by decide +kernel) (by decide +kernel)
theorem tb_14 : Cond.selects "MiddleOfCourt$Tape" ⟨"MiddleOfCourt$Tape", "readSum", "(I)V"⟩ ⟨"MiddleOfCourt$Tape", "readSum", "(I)V"⟩ ∈ TBL := TBL_of 14 (by decide +kernel) (by decide +kernel)
theorem tb_15 : Cond.selects "MiddleOfCourt$Tape" ⟨"MiddleOfCourt$Tape", "readTerm", "(I)V"⟩ ⟨"MiddleOfCourt$Tape", "readTerm", "(I)V"⟩ ∈ TBL := TBL_of 15 (by decide +kernel) (by decide +kernel)
theorem tb_16 : Cond.selects "MiddleOfCourt$Tape" ⟨"MiddleOfCourt$Tape", "readOne", "(I)V"⟩ ⟨"MiddleOfCourt$Tape", "readOne", "(I)V"⟩ ∈ TBL := TBL_of 16 (by decide +kernel) (by decide +kernel)
theorem tb_17 : Cond.selects "MiddleOfCourt" ⟨"MiddleOfCourt", "strokeAt", "(I)LMiddleOfCourt$Stroke;"⟩ ⟨"MiddleOfCourt", "strokeAt", "(I)LMiddleOfCourt$Stroke;"⟩ ∈ TBL := TBL_of 17 (by decide +kernel) (by decide +kernel)
theorem tb_18 : Cond.selects "MiddleOfCourt$Text" ⟨"MiddleOfCourt$Text", "work", "(II)I"⟩ ⟨"MiddleOfCourt$Text", "work", "(II)I"⟩ ∈ TBL := TBL_of 18 (by decide +kernel) (by decide +kernel)
theorem tb_19 : Cond.selects "MiddleOfCourt" ⟨"MiddleOfCourt", "refusalOfRally", "(I)I"⟩ ⟨"MiddleOfCourt", "refusalOfRally", "(I)I"⟩ ∈ TBL := TBL_of 19 (by decide +kernel) (by decide +kernel)
theorem tb_20 : Cond.selects "MiddleOfCourt" ⟨"MiddleOfCourt", "sheetAt", "(I)LMiddleOfCourt$Sheet;"⟩ ⟨"MiddleOfCourt", "sheetAt", "(I)LMiddleOfCourt$Sheet;"⟩ ∈ TBL := TBL_of 20 (by decide +kernel) (by decide +kernel)
theorem tb_21 : Cond.selects "MiddleOfCourt" ⟨"MiddleOfCourt", "playInThought", "(I)I"⟩ ⟨"MiddleOfCourt", "playInThought", "(I)I"⟩ ∈ TBL := TBL_of 21 (by decide +kernel) (by decide +kernel)
theorem tb_22 : Cond.selects "MiddleOfCourt" ⟨"MiddleOfCourt", "playOut", "(LMiddleOfCourt$Court;LMiddleOfCourt$Sheet;)I"⟩ ⟨"MiddleOfCourt", "playOut", "(LMiddleOfCourt$Court;LMiddleOfCourt$Sheet;)I"⟩ ∈ TBL := TBL_of 22 (by decide +kernel) (by decide +kernel)
theorem tb_23 : Cond.selects "MiddleOfCourt" ⟨"MiddleOfCourt", "valueFor", "(LMiddleOfCourt$Court;III)I"⟩ ⟨"MiddleOfCourt", "valueFor", "(LMiddleOfCourt$Court;III)I"⟩ ∈ TBL := TBL_of 23 (by decide +kernel) (by decide +kernel)
theorem tb_24 : Cond.selects "MiddleOfCourt" ⟨"MiddleOfCourt", "valueBy", "(LMiddleOfCourt$Court;ILMiddleOfCourt$Stroke;II)I"⟩ ⟨"MiddleOfCourt", "valueBy", "(LMiddleOfCourt$Court;ILMiddleOfCourt$Stroke;II)I"⟩ ∈ TBL := TBL_of 24 (by decide +kernel) (by decide +kernel)
theorem tb_25 : Cond.selects "MiddleOfCourt" ⟨"MiddleOfCourt", "badness", "(II)I"⟩ ⟨"MiddleOfCourt", "badness", "(II)I"⟩ ∈ TBL := TBL_of 25 (by decide +kernel) (by decide +kernel)
theorem tb_26 : Cond.selects "MiddleOfCourt" ⟨"MiddleOfCourt", "rowsBy", "(LMiddleOfCourt$Court;LMiddleOfCourt$Sheet;II)I"⟩ ⟨"MiddleOfCourt", "rowsBy", "(LMiddleOfCourt$Court;LMiddleOfCourt$Sheet;II)I"⟩ ∈ TBL := TBL_of 26 (by decide +kernel) (by decide +kernel)
theorem tb_27 : Cond.selects "MiddleOfCourt" ⟨"MiddleOfCourt", "rulesBy", "(LMiddleOfCourt$Sheet;I)I"⟩ ⟨"MiddleOfCourt", "rulesBy", "(LMiddleOfCourt$Sheet;I)I"⟩ ∈ TBL := TBL_of 27 (by decide +kernel) (by decide +kernel)
theorem tb_28 : Cond.selects "MiddleOfCourt" ⟨"MiddleOfCourt", "quicksBy", "(LMiddleOfCourt$Sheet;II)I"⟩ ⟨"MiddleOfCourt", "quicksBy", "(LMiddleOfCourt$Sheet;II)I"⟩ ∈ TBL := TBL_of 28 (by decide +kernel) (by decide +kernel)
theorem tb_29 : Cond.selects "MiddleOfCourtModel" ⟨"MiddleOfCourtModel", "spell", "(IIIIIIIII)V"⟩ ⟨"MiddleOfCourtModel", "spell", "(IIIIIIIII)V"⟩ ∈ TBL := TBL_of 29 (by decide +kernel) (by decide +kernel)
theorem tb_30 : Cond.selects "MiddleOfCourtModel" ⟨"MiddleOfCourtModel", "isStroke", "(I)Z"⟩ ⟨"MiddleOfCourtModel", "isStroke", "(I)Z"⟩ ∈ TBL := TBL_of 30 (by decide +kernel) (by decide +kernel)
theorem tb_31 : Cond.selects "MiddleOfCourtModel" ⟨"MiddleOfCourtModel", "read", "(II)I"⟩ ⟨"MiddleOfCourtModel", "read", "(II)I"⟩ ∈ TBL := TBL_of 31 (by decide +kernel) (by decide +kernel)
theorem tb_32 : Cond.selects "MiddleOfCourtModel" ⟨"MiddleOfCourtModel", "next", "()V"⟩ ⟨"MiddleOfCourtModel", "next", "()V"⟩ ∈ TBL := TBL_of 32 (by decide +kernel) (by decide +kernel)
theorem tb_33 : Cond.selects "MiddleOfCourtModel" ⟨"MiddleOfCourtModel", "byteAt", "(I)I"⟩ ⟨"MiddleOfCourtModel", "byteAt", "(I)I"⟩ ∈ TBL := TBL_of 33 (by decide +kernel) (by decide +kernel)
theorem tb_34 : Cond.selects "MiddleOfCourtModel" ⟨"MiddleOfCourtModel", "isWord", "(IIIIIIII)Z"⟩ ⟨"MiddleOfCourtModel", "isWord", "(IIIIIIII)Z"⟩ ∈ TBL := TBL_of 34 (by decide +kernel) (by decide +kernel)
theorem tb_35 : Cond.selects "MiddleOfCourtModel" ⟨"MiddleOfCourtModel", "isLetter", "(II)Z"⟩ ⟨"MiddleOfCourtModel", "isLetter", "(II)Z"⟩ ∈ TBL := TBL_of 35 (by decide +kernel) (by decide +kernel)
theorem tb_36 : Cond.selects "MiddleOfCourtModel" ⟨"MiddleOfCourtModel", "part", "(Z)I"⟩ ⟨"MiddleOfCourtModel", "part", "(Z)I"⟩ ∈ TBL := TBL_of 36 (by decide +kernel) (by decide +kernel)
theorem tb_37 : Cond.selects "MiddleOfCourtModel" ⟨"MiddleOfCourtModel", "fail", "()V"⟩ ⟨"MiddleOfCourtModel", "fail", "()V"⟩ ∈ TBL := TBL_of 37 (by decide +kernel) (by decide +kernel)
theorem tb_38 : Cond.selects "MiddleOfCourtModel" ⟨"MiddleOfCourtModel", "either", "()I"⟩ ⟨"MiddleOfCourtModel", "either", "()I"⟩ ∈ TBL := TBL_of 38 (by decide +kernel) (by decide +kernel)
theorem tb_39 : Cond.selects "MiddleOfCourtModel" ⟨"MiddleOfCourtModel", "both", "()I"⟩ ⟨"MiddleOfCourtModel", "both", "()I"⟩ ∈ TBL := TBL_of 39 (by decide +kernel) (by decide +kernel)
theorem tb_40 : Cond.selects "MiddleOfCourtModel" ⟨"MiddleOfCourtModel", "not", "()I"⟩ ⟨"MiddleOfCourtModel", "not", "()I"⟩ ∈ TBL := TBL_of 40 (by decide +kernel) (by decide +kernel)
theorem tb_41 : Cond.selects "MiddleOfCourtModel" ⟨"MiddleOfCourtModel", "opens", "()Z"⟩ ⟨"MiddleOfCourtModel", "opens", "()Z"⟩ ∈ TBL := TBL_of 41 (by decide +kernel) (by decide +kernel)
theorem tb_42 : Cond.selects "MiddleOfCourtModel" ⟨"MiddleOfCourtModel", "added", "()I"⟩ ⟨"MiddleOfCourtModel", "added", "()I"⟩ ∈ TBL := TBL_of 42 (by decide +kernel) (by decide +kernel)
theorem tb_43 : Cond.selects "MiddleOfCourtModel" ⟨"MiddleOfCourtModel", "term", "()I"⟩ ⟨"MiddleOfCourtModel", "term", "()I"⟩ ∈ TBL := TBL_of 43 (by decide +kernel) (by decide +kernel)
theorem tb_44 : Cond.selects "MiddleOfCourtModel" ⟨"MiddleOfCourtModel", "atom", "()I"⟩ ⟨"MiddleOfCourtModel", "atom", "()I"⟩ ∈ TBL := TBL_of 44 (by decide +kernel) (by decide +kernel)
theorem tb_45 : Cond.selects "MiddleOfCourtModel" ⟨"MiddleOfCourtModel", "isSign", "(I)Z"⟩ ⟨"MiddleOfCourtModel", "isSign", "(I)Z"⟩ ∈ TBL := TBL_of 45 (by decide +kernel) (by decide +kernel)
theorem tb_46 : Cond.selects "MiddleOfCourtModel" ⟨"MiddleOfCourtModel", "name", "()I"⟩ ⟨"MiddleOfCourtModel", "name", "()I"⟩ ∈ TBL := TBL_of 46 (by decide +kernel) (by decide +kernel)
theorem tb_47 : Cond.selects "MiddleOfCourtModel" ⟨"MiddleOfCourtModel", "needsOf", "(III)I"⟩ ⟨"MiddleOfCourtModel", "needsOf", "(III)I"⟩ ∈ TBL := TBL_of 47 (by decide +kernel) (by decide +kernel)
theorem tb_48 : Cond.selects "MiddleOfCourtModel" ⟨"MiddleOfCourtModel", "says", "(IIIII)I"⟩ ⟨"MiddleOfCourtModel", "says", "(IIIII)I"⟩ ∈ TBL := TBL_of 48 (by decide +kernel) (by decide +kernel)
theorem tb_49 : Cond.selects "MiddleOfCourtModel" ⟨"MiddleOfCourtModel", "comesTo", "(II)I"⟩ ⟨"MiddleOfCourtModel", "comesTo", "(II)I"⟩ ∈ TBL := TBL_of 49 (by decide +kernel) (by decide +kernel)
theorem tb_50 : Cond.selects "MiddleOfCourtModel" ⟨"MiddleOfCourtModel", "tenthsOf", "(II)I"⟩ ⟨"MiddleOfCourtModel", "tenthsOf", "(II)I"⟩ ∈ TBL := TBL_of 50 (by decide +kernel) (by decide +kernel)
theorem tb_51 : Cond.selects "MiddleOfCourtModel" ⟨"MiddleOfCourtModel", "slipsOf", "(II)I"⟩ ⟨"MiddleOfCourtModel", "slipsOf", "(II)I"⟩ ∈ TBL := TBL_of 51 (by decide +kernel) (by decide +kernel)
theorem tb_52 : Cond.selects "MiddleOfCourtModel" ⟨"MiddleOfCourtModel", "spendsOf", "(I)I"⟩ ⟨"MiddleOfCourtModel", "spendsOf", "(I)I"⟩ ∈ TBL := TBL_of 52 (by decide +kernel) (by decide +kernel)
theorem tb_53 : Cond.selects "MiddleOfCourtModel" ⟨"MiddleOfCourtModel", "rallyBad", "(I)I"⟩ ⟨"MiddleOfCourtModel", "rallyBad", "(I)I"⟩ ∈ TBL := TBL_of 53 (by decide +kernel) (by decide +kernel)
theorem tb_54 : Cond.selects "MiddleOfCourtModel" ⟨"MiddleOfCourtModel", "layAside", "()V"⟩ ⟨"MiddleOfCourtModel", "layAside", "()V"⟩ ∈ TBL := TBL_of 54 (by decide +kernel) (by decide +kernel)
theorem tb_55 : Cond.selects "MiddleOfCourtModel" ⟨"MiddleOfCourtModel", "rallies", "(I)V"⟩ ⟨"MiddleOfCourtModel", "rallies", "(I)V"⟩ ∈ TBL := TBL_of 55 (by decide +kernel) (by decide +kernel)
theorem tb_56 : Cond.selects "MiddleOfCourtModel" ⟨"MiddleOfCourtModel", "strikes", "(II)Z"⟩ ⟨"MiddleOfCourtModel", "strikes", "(II)Z"⟩ ∈ TBL := TBL_of 56 (by decide +kernel) (by decide +kernel)
theorem tb_57 : Cond.selects "MiddleOfCourtModel" ⟨"MiddleOfCourtModel", "tire", "(II)V"⟩ ⟨"MiddleOfCourtModel", "tire", "(II)V"⟩ ∈ TBL := TBL_of 57 (by decide +kernel) (by decide +kernel)
theorem tb_58 : Cond.selects "MiddleOfCourtModel" ⟨"MiddleOfCourtModel", "takeBack", "()V"⟩ ⟨"MiddleOfCourtModel", "takeBack", "()V"⟩ ∈ TBL := TBL_of 58 (by decide +kernel) (by decide +kernel)
theorem tb_59 : Cond.selects "MiddleOfCourtModel" ⟨"MiddleOfCourtModel", "valueOf", "(II)I"⟩ ⟨"MiddleOfCourtModel", "valueOf", "(II)I"⟩ ∈ TBL := TBL_of 59 (by decide +kernel) (by decide +kernel)
theorem tb_60 : Cond.selects "MiddleOfCourtModel" ⟨"MiddleOfCourtModel", "badness", "(II)I"⟩ ⟨"MiddleOfCourtModel", "badness", "(II)I"⟩ ∈ TBL := TBL_of 60 (by decide +kernel) (by decide +kernel)
theorem tb_61 : Cond.selects "MiddleOfCourtModel" ⟨"MiddleOfCourtModel", "goesOn", "(III)V"⟩ ⟨"MiddleOfCourtModel", "goesOn", "(III)V"⟩ ∈ TBL := TBL_of 61 (by decide +kernel) (by decide +kernel)
theorem tb_62 : Cond.selects "MiddleOfCourtModel" ⟨"MiddleOfCourtModel", "tries", "(II)V"⟩ ⟨"MiddleOfCourtModel", "tries", "(II)V"⟩ ∈ TBL := TBL_of 62 (by decide +kernel) (by decide +kernel)
theorem tb_63 : Cond.selects "MiddleOfCourtModel" ⟨"MiddleOfCourtModel", "winsSo", "(II)Z"⟩ ⟨"MiddleOfCourtModel", "winsSo", "(II)Z"⟩ ∈ TBL := TBL_of 63 (by decide +kernel) (by decide +kernel)
theorem tb_64 : Cond.selects "MiddleOfCourtModel" ⟨"MiddleOfCourtModel", "draws", "(I)I"⟩ ⟨"MiddleOfCourtModel", "draws", "(I)I"⟩ ∈ TBL := TBL_of 64 (by decide +kernel) (by decide +kernel)
theorem tb_65 : Cond.initialized "MiddleOfCourtLaw" ∈ TBL := TBL_of 65 (by decide +kernel) (by decide +kernel)
theorem tb_66 : Cond.initialized "MiddleOfCourt" ∈ TBL := TBL_of 66 (by decide +kernel) (by decide +kernel)
theorem tb_67 : Cond.initialized "MiddleOfCourt$Tape" ∈ TBL := TBL_of 67 (by decide +kernel) (by decide +kernel)
theorem tb_68 : Cond.initialized "MiddleOfCourt$Text" ∈ TBL := TBL_of 68 (by decide +kernel) (by decide +kernel)
theorem tb_69 : Cond.initialized "java/lang/String" ∈ TBL := TBL_of 69 (by decide +kernel) (by decide +kernel)
theorem tb_70 : Cond.initialized "java/lang/StringLatin1" ∈ TBL := TBL_of 70 (by decide +kernel) (by decide +kernel)
theorem tb_71 : Cond.initialized "jdk/internal/util/Preconditions" ∈ TBL := TBL_of 71 (by decide +kernel) (by decide +kernel)
theorem tb_72 : Cond.initialized "java/lang/StringUTF16" ∈ TBL := TBL_of 72 (by decide +kernel) (by decide +kernel)
theorem tb_73 : Cond.initialized "MiddleOfCourt$Court" ∈ TBL := TBL_of 73 (by decide +kernel) (by decide +kernel)
theorem tb_74 : Cond.initialized "MiddleOfCourt$Player" ∈ TBL := TBL_of 74 (by decide +kernel) (by decide +kernel)
theorem tb_75 : Cond.initialized "MiddleOfCourt$Sheet" ∈ TBL := TBL_of 75 (by decide +kernel) (by decide +kernel)
theorem tb_76 : Cond.initialized "MiddleOfCourtModel" ∈ TBL := TBL_of 76 (by decide +kernel) (by decide +kernel)
theorem tb_77 : Cond.initialized "MiddleOfCourt$Stroke" ∈ TBL := TBL_of 77 (by decide +kernel) (by decide +kernel)
theorem tb_78 : Cond.initialized "MiddleOfCourt$Length" ∈ TBL := TBL_of 78 (by decide +kernel) (by decide +kernel)
theorem tb_79 : Cond.initialized "MiddleOfCourt$Drop" ∈ TBL := TBL_of 79 (by decide +kernel) (by decide +kernel)
theorem tb_80 : Cond.initialized "MiddleOfCourt$Lob" ∈ TBL := TBL_of 80 (by decide +kernel) (by decide +kernel)
theorem tb_81 : Cond.initialized "MiddleOfCourt$Boast" ∈ TBL := TBL_of 81 (by decide +kernel) (by decide +kernel)
theorem tb_82 : Cond.initialized "MiddleOfCourt$Cross" ∈ TBL := TBL_of 82 (by decide +kernel) (by decide +kernel)
theorem tb_83 : Cond.initialized "java/lang/Math" ∈ TBL := TBL_of 83 (by decide +kernel) (by decide +kernel)
theorem tb_84 : Cond.initialized "java/lang/Integer" ∈ TBL := TBL_of 84 (by decide +kernel) (by decide +kernel)
theorem tb_85 : Cond.initialized "java/lang/System" ∈ TBL := TBL_of 85 (by decide +kernel) (by decide +kernel)
theorem tb_86 : Cond.classLink "MiddleOfCourtLaw" 7 "MiddleOfCourt" ∈ TBL := TBL_of 86 (by decide +kernel) (by decide +kernel)
theorem tb_87 : Cond.instantiable "MiddleOfCourt" 19 ∈ TBL := TBL_of 87 (by decide +kernel) (by decide +kernel)
theorem tb_88 : Cond.methodLink "MiddleOfCourtLaw" 9 ⟨"MiddleOfCourt", "<init>", "()V"⟩ ∈ TBL := TBL_of 88 (by decide +kernel) (by decide +kernel)
theorem tb_89 : Cond.instanceMethod ⟨"MiddleOfCourt", "<init>", "()V"⟩ ∈ TBL := TBL_of 89 (by decide +kernel) (by decide +kernel)
theorem tb_90 : Cond.code ⟨"MiddleOfCourt", "<init>", "()V"⟩ prog_1_method_1_code 2 none ∈ TBL := TBL_of 90 (by decide +kernel) (by decide +kernel)
theorem tb_91 : Cond.methodLink "MiddleOfCourt" 1 ⟨"java/lang/Object", "<init>", "()V"⟩ ∈ TBL := TBL_of 91 (by decide +kernel) (by decide +kernel)
theorem tb_92 : Cond.instanceMethod ⟨"java/lang/Object", "<init>", "()V"⟩ ∈ TBL := TBL_of 92 (by decide +kernel) (by decide +kernel)
theorem tb_93 : Cond.code ⟨"java/lang/Object", "<init>", "()V"⟩ object_method_1_code 1 none ∈ TBL := TBL_of 93 (by decide +kernel) (by decide +kernel)
theorem tb_94 : Cond.classLink "MiddleOfCourt" 9 "MiddleOfCourt$Text" ∈ TBL := TBL_of 94 (by decide +kernel) (by decide +kernel)
theorem tb_96 : Cond.classLink "MiddleOfCourt" 15 "MiddleOfCourt$Tape" ∈ TBL := TBL_of 96 (by decide +kernel) (by decide +kernel)
theorem tb_97 : Cond.instantiable "MiddleOfCourt$Tape" 8 ∈ TBL := TBL_of 97 (by decide +kernel) (by decide +kernel)
theorem tb_99 : Cond.instanceMethod ⟨"MiddleOfCourt$Tape", "<init>", "()V"⟩ ∈ TBL := TBL_of 99 (by decide +kernel) (by decide +kernel)
theorem tb_100 : Cond.code ⟨"MiddleOfCourt$Tape", "<init>", "()V"⟩ prog_11_method_1_code 1 none ∈ TBL := TBL_of 100 (by decide +kernel) (by decide +kernel)
theorem tb_101 : Cond.methodLink "MiddleOfCourt$Tape" 3 ⟨"java/lang/Object", "<init>", "()V"⟩ ∈ TBL := TBL_of 101 (by decide +kernel) (by decide +kernel)
theorem tb_102 : Cond.fieldLink "MiddleOfCourt$Tape" 9 "MiddleOfCourt$Tape" "letters" "[I" ∈ TBL := TBL_of 102 (by decide +kernel) (by decide +kernel)
theorem tb_103 : Cond.fieldLink "MiddleOfCourt$Tape" 15 "MiddleOfCourt$Tape" "size" "I" ∈ TBL := TBL_of 103 (by decide +kernel) (by decide +kernel)
theorem tb_104 : Cond.fieldLink "MiddleOfCourt" 91 "MiddleOfCourt$Tape" "size" "I" ∈ TBL := TBL_of 104 (by decide +kernel) (by decide +kernel)
theorem tb_105 : Cond.fieldLink "MiddleOfCourt$Tape" 19 "MiddleOfCourt$Tape" "into" "LMiddleOfCourt$Text;" ∈ TBL := TBL_of 105 (by decide +kernel) (by decide +kernel)
theorem tb_106 : Cond.fieldLink "MiddleOfCourt$Tape" 23 "MiddleOfCourt$Tape" "place" "I" ∈ TBL := TBL_of 106 (by decide +kernel) (by decide +kernel)
theorem tb_107 : Cond.fieldLink "MiddleOfCourt$Tape" 26 "MiddleOfCourt$Tape" "start" "I" ∈ TBL := TBL_of 107 (by decide +kernel) (by decide +kernel)
theorem tb_108 : Cond.fieldLink "MiddleOfCourt$Tape" 29 "MiddleOfCourt$Tape" "token" "I" ∈ TBL := TBL_of 108 (by decide +kernel) (by decide +kernel)
theorem tb_109 : Cond.fieldLink "MiddleOfCourt$Tape" 32 "MiddleOfCourt$Tape" "worth" "I" ∈ TBL := TBL_of 109 (by decide +kernel) (by decide +kernel)
theorem tb_110 : Cond.fieldLink "MiddleOfCourt$Tape" 35 "MiddleOfCourt$Tape" "fault" "I" ∈ TBL := TBL_of 110 (by decide +kernel) (by decide +kernel)
theorem tb_111 : Cond.laysFinal "MiddleOfCourt$Tape" "MiddleOfCourt$Tape" "letters" "[I" ∈ TBL := TBL_of 111 (by decide +kernel) (by decide +kernel)
theorem tb_113 : Cond.lays "MiddleOfCourt$Tape" "MiddleOfCourt$Tape" "size" "I" ∈ TBL := TBL_of 113 (by decide +kernel) (by decide +kernel)
theorem tb_115 : Cond.lays "MiddleOfCourt$Tape" "MiddleOfCourt$Tape" "into" "LMiddleOfCourt$Text;" ∈ TBL := TBL_of 115 (by decide +kernel) (by decide +kernel)
theorem tb_117 : Cond.lays "MiddleOfCourt$Tape" "MiddleOfCourt$Tape" "place" "I" ∈ TBL := TBL_of 117 (by decide +kernel) (by decide +kernel)
theorem tb_119 : Cond.lays "MiddleOfCourt$Tape" "MiddleOfCourt$Tape" "start" "I" ∈ TBL := TBL_of 119 (by decide +kernel) (by decide +kernel)
theorem tb_121 : Cond.lays "MiddleOfCourt$Tape" "MiddleOfCourt$Tape" "token" "I" ∈ TBL := TBL_of 121 (by decide +kernel) (by decide +kernel)
theorem tb_123 : Cond.lays "MiddleOfCourt$Tape" "MiddleOfCourt$Tape" "worth" "I" ∈ TBL := TBL_of 123 (by decide +kernel) (by decide +kernel)
theorem tb_125 : Cond.lays "MiddleOfCourt$Tape" "MiddleOfCourt$Tape" "fault" "I" ∈ TBL := TBL_of 125 (by decide +kernel) (by decide +kernel)
theorem tb_127 : Cond.superclass "MiddleOfCourt$Tape" "java/lang/Object" ∈ TBL := TBL_of 127 (by decide +kernel) (by decide +kernel)
theorem tb_128 : Cond.arrayClass .int ∈ TBL := TBL_of 128 (by decide +kernel) (by decide +kernel)
theorem tb_129 : Cond.classLink "MiddleOfCourt" 26 "MiddleOfCourt$Stroke" ∈ TBL := TBL_of 129 (by decide +kernel) (by decide +kernel)
theorem tb_131 : Cond.classLink "MiddleOfCourt" 35 "MiddleOfCourt$Court" ∈ TBL := TBL_of 131 (by decide +kernel) (by decide +kernel)
theorem tb_133 : Cond.classLink "MiddleOfCourt" 51 "MiddleOfCourt$Sheet" ∈ TBL := TBL_of 133 (by decide +kernel) (by decide +kernel)
theorem tb_135 : Cond.constantLong "MiddleOfCourt" 63 (1000000000 : Int64) ∈ TBL := TBL_of 135 (by decide +kernel) (by decide +kernel)
theorem tb_136 : Cond.instantiable "MiddleOfCourt$Text" 6 ∈ TBL := TBL_of 136 (by decide +kernel) (by decide +kernel)
theorem tb_137 : Cond.methodLink "MiddleOfCourt" 78 ⟨"MiddleOfCourt$Text", "<init>", "(I)V"⟩ ∈ TBL := TBL_of 137 (by decide +kernel) (by decide +kernel)
theorem tb_138 : Cond.instanceMethod ⟨"MiddleOfCourt$Text", "<init>", "(I)V"⟩ ∈ TBL := TBL_of 138 (by decide +kernel) (by decide +kernel)
theorem tb_139 : Cond.code ⟨"MiddleOfCourt$Text", "<init>", "(I)V"⟩ prog_12_method_1_code 2 none ∈ TBL := TBL_of 139 (by decide +kernel) (by decide +kernel)
theorem tb_140 : Cond.methodLink "MiddleOfCourt$Text" 3 ⟨"java/lang/Object", "<init>", "()V"⟩ ∈ TBL := TBL_of 140 (by decide +kernel) (by decide +kernel)
theorem tb_141 : Cond.fieldLink "MiddleOfCourt$Text" 28 "MiddleOfCourt$Text" "place" "I" ∈ TBL := TBL_of 141 (by decide +kernel) (by decide +kernel)
theorem tb_142 : Cond.fieldLink "MiddleOfCourt" 177 "MiddleOfCourt$Text" "place" "I" ∈ TBL := TBL_of 142 (by decide +kernel) (by decide +kernel)
theorem tb_143 : Cond.fieldLink "MiddleOfCourt$Text" 9 "MiddleOfCourt$Text" "code" "[I" ∈ TBL := TBL_of 143 (by decide +kernel) (by decide +kernel)
theorem tb_144 : Cond.fieldLink "MiddleOfCourt$Text" 15 "MiddleOfCourt$Text" "stack" "[I" ∈ TBL := TBL_of 144 (by decide +kernel) (by decide +kernel)
theorem tb_145 : Cond.fieldLink "MiddleOfCourt$Text" 18 "MiddleOfCourt$Text" "names" "[I" ∈ TBL := TBL_of 145 (by decide +kernel) (by decide +kernel)
theorem tb_146 : Cond.fieldLink "MiddleOfCourt$Text" 21 "MiddleOfCourt$Text" "ends" "[I" ∈ TBL := TBL_of 146 (by decide +kernel) (by decide +kernel)
theorem tb_147 : Cond.fieldLink "MiddleOfCourt$Text" 24 "MiddleOfCourt$Text" "size" "I" ∈ TBL := TBL_of 147 (by decide +kernel) (by decide +kernel)
theorem tb_148 : Cond.laysFinal "MiddleOfCourt$Text" "MiddleOfCourt$Text" "place" "I" ∈ TBL := TBL_of 148 (by decide +kernel) (by decide +kernel)
theorem tb_150 : Cond.laysFinal "MiddleOfCourt$Text" "MiddleOfCourt$Text" "code" "[I" ∈ TBL := TBL_of 150 (by decide +kernel) (by decide +kernel)
theorem tb_152 : Cond.laysFinal "MiddleOfCourt$Text" "MiddleOfCourt$Text" "stack" "[I" ∈ TBL := TBL_of 152 (by decide +kernel) (by decide +kernel)
theorem tb_154 : Cond.laysFinal "MiddleOfCourt$Text" "MiddleOfCourt$Text" "names" "[I" ∈ TBL := TBL_of 154 (by decide +kernel) (by decide +kernel)
theorem tb_156 : Cond.laysFinal "MiddleOfCourt$Text" "MiddleOfCourt$Text" "ends" "[I" ∈ TBL := TBL_of 156 (by decide +kernel) (by decide +kernel)
theorem tb_158 : Cond.lays "MiddleOfCourt$Text" "MiddleOfCourt$Text" "size" "I" ∈ TBL := TBL_of 158 (by decide +kernel) (by decide +kernel)
theorem tb_160 : Cond.superclass "MiddleOfCourt$Text" "java/lang/Object" ∈ TBL := TBL_of 160 (by decide +kernel) (by decide +kernel)
theorem tb_162 : Cond.methodLink "MiddleOfCourt" 83 ⟨"MiddleOfCourt$Tape", "write", "(Ljava/lang/String;)V"⟩ ∈ TBL := TBL_of 162 (by decide +kernel) (by decide +kernel)
theorem tb_163 : Cond.instanceMethod ⟨"MiddleOfCourt$Tape", "write", "(Ljava/lang/String;)V"⟩ ∈ TBL := TBL_of 163 (by decide +kernel) (by decide +kernel)
theorem tb_164 : Cond.selects "MiddleOfCourt$Tape" ⟨"MiddleOfCourt$Tape", "write", "(Ljava/lang/String;)V"⟩ ⟨"MiddleOfCourt$Tape", "write", "(Ljava/lang/String;)V"⟩ ∈ TBL := TBL_of 164 (by decide +kernel) (by decide +kernel)
theorem tb_165 : Cond.code ⟨"MiddleOfCourt$Tape", "write", "(Ljava/lang/String;)V"⟩ prog_11_method_3_code 3 none ∈ TBL := TBL_of 165 (by decide +kernel) (by decide +kernel)
theorem tb_166 : Cond.methodLink "MiddleOfCourt$Tape" 38 ⟨"java/lang/String", "length", "()I"⟩ ∈ TBL := TBL_of 166 (by decide +kernel) (by decide +kernel)
theorem tb_167 : Cond.instanceMethod ⟨"java/lang/String", "length", "()I"⟩ ∈ TBL := TBL_of 167 (by decide +kernel) (by decide +kernel)
theorem tb_168 : Cond.selects "java/lang/String" ⟨"java/lang/String", "length", "()I"⟩ ⟨"java/lang/String", "length", "()I"⟩ ∈ TBL := TBL_of 168 (by decide +kernel) (by decide +kernel)
theorem tb_169 : Cond.code ⟨"java/lang/String", "length", "()I"⟩ prog_17_method_54_code 1 (some .int) ∈ TBL := TBL_of 169 (by decide +kernel) (by decide +kernel)
theorem tb_170 : Cond.methodLink "java/lang/String" 335 ⟨"java/lang/String", "coder", "()B"⟩ ∈ TBL := TBL_of 170 (by decide +kernel) (by decide +kernel)
theorem tb_171 : Cond.instanceMethod ⟨"java/lang/String", "coder", "()B"⟩ ∈ TBL := TBL_of 171 (by decide +kernel) (by decide +kernel)
theorem tb_172 : Cond.selects "java/lang/String" ⟨"java/lang/String", "coder", "()B"⟩ ⟨"java/lang/String", "coder", "()B"⟩ ∈ TBL := TBL_of 172 (by decide +kernel) (by decide +kernel)
theorem tb_173 : Cond.code ⟨"java/lang/String", "coder", "()B"⟩ prog_17_method_152_code 1 (some .byte) ∈ TBL := TBL_of 173 (by decide +kernel) (by decide +kernel)
theorem tb_174 : Cond.fieldLink "java/lang/String" 38 "java/lang/String" "COMPACT_STRINGS" "Z" ∈ TBL := TBL_of 174 (by decide +kernel) (by decide +kernel)
theorem tb_175 : Cond.laysStatic "java/lang/String" "COMPACT_STRINGS" "Z" ∈ TBL := TBL_of 175 (by decide +kernel) (by decide +kernel)
theorem tb_176 : Cond.methodLink "MiddleOfCourt$Tape" 44 ⟨"java/lang/String", "charAt", "(I)C"⟩ ∈ TBL := TBL_of 176 (by decide +kernel) (by decide +kernel)
theorem tb_177 : Cond.instanceMethod ⟨"java/lang/String", "charAt", "(I)C"⟩ ∈ TBL := TBL_of 177 (by decide +kernel) (by decide +kernel)
theorem tb_178 : Cond.selects "java/lang/String" ⟨"java/lang/String", "charAt", "(I)C"⟩ ⟨"java/lang/String", "charAt", "(I)C"⟩ ∈ TBL := TBL_of 178 (by decide +kernel) (by decide +kernel)
theorem tb_179 : Cond.code ⟨"java/lang/String", "charAt", "(I)C"⟩ prog_17_method_56_code 2 (some .char) ∈ TBL := TBL_of 179 (by decide +kernel) (by decide +kernel)
theorem tb_180 : Cond.methodLink "java/lang/String" 492 ⟨"java/lang/String", "isLatin1", "()Z"⟩ ∈ TBL := TBL_of 180 (by decide +kernel) (by decide +kernel)
theorem tb_181 : Cond.instanceMethod ⟨"java/lang/String", "isLatin1", "()Z"⟩ ∈ TBL := TBL_of 181 (by decide +kernel) (by decide +kernel)
theorem tb_182 : Cond.selects "java/lang/String" ⟨"java/lang/String", "isLatin1", "()Z"⟩ ⟨"java/lang/String", "isLatin1", "()Z"⟩ ∈ TBL := TBL_of 182 (by decide +kernel) (by decide +kernel)
theorem tb_183 : Cond.code ⟨"java/lang/String", "isLatin1", "()Z"⟩ prog_17_method_154_code 1 (some .boolean) ∈ TBL := TBL_of 183 (by decide +kernel) (by decide +kernel)
theorem tb_184 : Cond.methodLink "java/lang/String" 495 ⟨"java/lang/StringLatin1", "charAt", "([BI)C"⟩ ∈ TBL := TBL_of 184 (by decide +kernel) (by decide +kernel)
theorem tb_185 : Cond.static ⟨"java/lang/StringLatin1", "charAt", "([BI)C"⟩ ∈ TBL := TBL_of 185 (by decide +kernel) (by decide +kernel)
theorem tb_186 : Cond.code ⟨"java/lang/StringLatin1", "charAt", "([BI)C"⟩ prog_18_method_2_code 2 (some .char) ∈ TBL := TBL_of 186 (by decide +kernel) (by decide +kernel)
theorem tb_187 : Cond.methodLink "java/lang/StringLatin1" 9 ⟨"java/lang/String", "checkIndex", "(II)V"⟩ ∈ TBL := TBL_of 187 (by decide +kernel) (by decide +kernel)
theorem tb_188 : Cond.static ⟨"java/lang/String", "checkIndex", "(II)V"⟩ ∈ TBL := TBL_of 188 (by decide +kernel) (by decide +kernel)
theorem tb_189 : Cond.code ⟨"java/lang/String", "checkIndex", "(II)V"⟩ prog_17_method_155_code 2 none ∈ TBL := TBL_of 189 (by decide +kernel) (by decide +kernel)
theorem tb_190 : Cond.fieldLink "java/lang/String" 1053 "jdk/internal/util/Preconditions" "SIOOBE_FORMATTER" "Ljava/util/function/BiFunction;" ∈ TBL := TBL_of 190 (by decide +kernel) (by decide +kernel)
theorem tb_191 : Cond.laysStatic "jdk/internal/util/Preconditions" "SIOOBE_FORMATTER" "Ljava/util/function/BiFunction;" ∈ TBL := TBL_of 191 (by decide +kernel) (by decide +kernel)
theorem tb_192 : Cond.methodLink "java/lang/String" 1059 ⟨"jdk/internal/util/Preconditions", "checkIndex", "(IILjava/util/function/BiFunction;)I"⟩ ∈ TBL := TBL_of 192 (by decide +kernel) (by decide +kernel)
theorem tb_193 : Cond.static ⟨"jdk/internal/util/Preconditions", "checkIndex", "(IILjava/util/function/BiFunction;)I"⟩ ∈ TBL := TBL_of 193 (by decide +kernel) (by decide +kernel)
theorem tb_194 : Cond.code ⟨"jdk/internal/util/Preconditions", "checkIndex", "(IILjava/util/function/BiFunction;)I"⟩ prog_21_method_11_code 3 (some .int) ∈ TBL := TBL_of 194 (by decide +kernel) (by decide +kernel)
theorem tb_195 : Cond.methodLink "java/lang/String" 498 ⟨"java/lang/StringUTF16", "charAt", "([BI)C"⟩ ∈ TBL := TBL_of 195 (by decide +kernel) (by decide +kernel)
theorem tb_196 : Cond.static ⟨"java/lang/StringUTF16", "charAt", "([BI)C"⟩ ∈ TBL := TBL_of 196 (by decide +kernel) (by decide +kernel)
theorem tb_197 : Cond.code ⟨"java/lang/StringUTF16", "charAt", "([BI)C"⟩ prog_19_method_83_code 2 (some .char) ∈ TBL := TBL_of 197 (by decide +kernel) (by decide +kernel)
theorem tb_198 : Cond.methodLink "java/lang/StringUTF16" 67 ⟨"java/lang/StringUTF16", "checkIndex", "(I[B)V"⟩ ∈ TBL := TBL_of 198 (by decide +kernel) (by decide +kernel)
theorem tb_199 : Cond.static ⟨"java/lang/StringUTF16", "checkIndex", "(I[B)V"⟩ ∈ TBL := TBL_of 199 (by decide +kernel) (by decide +kernel)
theorem tb_200 : Cond.code ⟨"java/lang/StringUTF16", "checkIndex", "(I[B)V"⟩ prog_19_method_91_code 2 none ∈ TBL := TBL_of 200 (by decide +kernel) (by decide +kernel)
theorem tb_201 : Cond.methodLink "java/lang/StringUTF16" 48 ⟨"java/lang/StringUTF16", "length", "([B)I"⟩ ∈ TBL := TBL_of 201 (by decide +kernel) (by decide +kernel)
theorem tb_202 : Cond.static ⟨"java/lang/StringUTF16", "length", "([B)I"⟩ ∈ TBL := TBL_of 202 (by decide +kernel) (by decide +kernel)
theorem tb_203 : Cond.code ⟨"java/lang/StringUTF16", "length", "([B)I"⟩ prog_19_method_6_code 1 (some .int) ∈ TBL := TBL_of 203 (by decide +kernel) (by decide +kernel)
theorem tb_204 : Cond.methodLink "java/lang/StringUTF16" 414 ⟨"java/lang/String", "checkIndex", "(II)V"⟩ ∈ TBL := TBL_of 204 (by decide +kernel) (by decide +kernel)
theorem tb_205 : Cond.methodLink "java/lang/StringUTF16" 71 ⟨"java/lang/StringUTF16", "getChar", "([BI)C"⟩ ∈ TBL := TBL_of 205 (by decide +kernel) (by decide +kernel)
theorem tb_206 : Cond.static ⟨"java/lang/StringUTF16", "getChar", "([BI)C"⟩ ∈ TBL := TBL_of 206 (by decide +kernel) (by decide +kernel)
theorem tb_207 : Cond.code ⟨"java/lang/StringUTF16", "getChar", "([BI)C"⟩ prog_19_method_5_code 2 (some .char) ∈ TBL := TBL_of 207 (by decide +kernel) (by decide +kernel)
theorem tb_208 : Cond.fieldLink "java/lang/StringUTF16" 44 "java/lang/StringUTF16" "$assertionsDisabled" "Z" ∈ TBL := TBL_of 208 (by decide +kernel) (by decide +kernel)
theorem tb_209 : Cond.laysStatic "java/lang/StringUTF16" "$assertionsDisabled" "Z" ∈ TBL := TBL_of 209 (by decide +kernel) (by decide +kernel)
theorem tb_210 : Cond.fieldLink "java/lang/StringUTF16" 59 "java/lang/StringUTF16" "HI_BYTE_SHIFT" "I" ∈ TBL := TBL_of 210 (by decide +kernel) (by decide +kernel)
theorem tb_211 : Cond.laysStatic "java/lang/StringUTF16" "HI_BYTE_SHIFT" "I" ∈ TBL := TBL_of 211 (by decide +kernel) (by decide +kernel)
theorem tb_212 : Cond.fieldLink "java/lang/StringUTF16" 63 "java/lang/StringUTF16" "LO_BYTE_SHIFT" "I" ∈ TBL := TBL_of 212 (by decide +kernel) (by decide +kernel)
theorem tb_213 : Cond.laysStatic "java/lang/StringUTF16" "LO_BYTE_SHIFT" "I" ∈ TBL := TBL_of 213 (by decide +kernel) (by decide +kernel)
theorem tb_214 : Cond.methodLink "MiddleOfCourt$Tape" 48 ⟨"MiddleOfCourt$Tape", "add", "(I)Z"⟩ ∈ TBL := TBL_of 214 (by decide +kernel) (by decide +kernel)
theorem tb_215 : Cond.instanceMethod ⟨"MiddleOfCourt$Tape", "add", "(I)Z"⟩ ∈ TBL := TBL_of 215 (by decide +kernel) (by decide +kernel)
theorem tb_216 : Cond.selects "MiddleOfCourt$Tape" ⟨"MiddleOfCourt$Tape", "add", "(I)Z"⟩ ⟨"MiddleOfCourt$Tape", "add", "(I)Z"⟩ ∈ TBL := TBL_of 216 (by decide +kernel) (by decide +kernel)
theorem tb_217 : Cond.code ⟨"MiddleOfCourt$Tape", "add", "(I)Z"⟩ prog_11_method_2_code 2 (some .boolean) ∈ TBL := TBL_of 217 (by decide +kernel) (by decide +kernel)
theorem tb_218 : Cond.methodLink "MiddleOfCourt" 87 ⟨"MiddleOfCourt$Tape", "readInto", "(LMiddleOfCourt$Text;)I"⟩ ∈ TBL := TBL_of 218 (by decide +kernel) (by decide +kernel)
theorem tb_219 : Cond.instanceMethod ⟨"MiddleOfCourt$Tape", "readInto", "(LMiddleOfCourt$Text;)I"⟩ ∈ TBL := TBL_of 219 (by decide +kernel) (by decide +kernel)
theorem tb_220 : Cond.selects "MiddleOfCourt$Tape" ⟨"MiddleOfCourt$Tape", "readInto", "(LMiddleOfCourt$Text;)I"⟩ ⟨"MiddleOfCourt$Tape", "readInto", "(LMiddleOfCourt$Text;)I"⟩ ∈ TBL := TBL_of 220 (by decide +kernel) (by decide +kernel)
theorem tb_221 : Cond.code ⟨"MiddleOfCourt$Tape", "readInto", "(LMiddleOfCourt$Text;)I"⟩ prog_11_method_4_code 3 (some .int) ∈ TBL := TBL_of 221 (by decide +kernel) (by decide +kernel)
theorem tb_222 : Cond.methodLink "MiddleOfCourt$Tape" 52 ⟨"MiddleOfCourt$Text", "clear", "()V"⟩ ∈ TBL := TBL_of 222 (by decide +kernel) (by decide +kernel)
theorem tb_223 : Cond.instanceMethod ⟨"MiddleOfCourt$Text", "clear", "()V"⟩ ∈ TBL := TBL_of 223 (by decide +kernel) (by decide +kernel)
theorem tb_224 : Cond.selects "MiddleOfCourt$Text" ⟨"MiddleOfCourt$Text", "clear", "()V"⟩ ⟨"MiddleOfCourt$Text", "clear", "()V"⟩ ∈ TBL := TBL_of 224 (by decide +kernel) (by decide +kernel)
theorem tb_225 : Cond.code ⟨"MiddleOfCourt$Text", "clear", "()V"⟩ prog_12_method_2_code 1 none ∈ TBL := TBL_of 225 (by decide +kernel) (by decide +kernel)
theorem tb_226 : Cond.methodLink "MiddleOfCourt$Tape" 57 ⟨"MiddleOfCourt$Tape", "next", "()V"⟩ ∈ TBL := TBL_of 226 (by decide +kernel) (by decide +kernel)
theorem tb_228 : Cond.instanceMethod ⟨"MiddleOfCourt$Tape", "next", "()V"⟩ ∈ TBL := TBL_of 228 (by decide +kernel) (by decide +kernel)
theorem tb_229 : Cond.code ⟨"MiddleOfCourt$Tape", "next", "()V"⟩ prog_11_method_16_code 2 none ∈ TBL := TBL_of 229 (by decide +kernel) (by decide +kernel)
theorem tb_230 : Cond.methodLink "MiddleOfCourt$Tape" 96 ⟨"MiddleOfCourt$Tape", "letterAt", "(I)I"⟩ ∈ TBL := TBL_of 230 (by decide +kernel) (by decide +kernel)
theorem tb_232 : Cond.instanceMethod ⟨"MiddleOfCourt$Tape", "letterAt", "(I)I"⟩ ∈ TBL := TBL_of 232 (by decide +kernel) (by decide +kernel)
theorem tb_233 : Cond.code ⟨"MiddleOfCourt$Tape", "letterAt", "(I)I"⟩ prog_11_method_15_code 2 (some .int) ∈ TBL := TBL_of 233 (by decide +kernel) (by decide +kernel)
theorem tb_234 : Cond.methodLink "MiddleOfCourt$Tape" 100 ⟨"MiddleOfCourt$Tape", "isLetter", "(I)Z"⟩ ∈ TBL := TBL_of 234 (by decide +kernel) (by decide +kernel)
theorem tb_235 : Cond.static ⟨"MiddleOfCourt$Tape", "isLetter", "(I)Z"⟩ ∈ TBL := TBL_of 235 (by decide +kernel) (by decide +kernel)
theorem tb_236 : Cond.code ⟨"MiddleOfCourt$Tape", "isLetter", "(I)Z"⟩ prog_11_method_17_code 1 (some .boolean) ∈ TBL := TBL_of 236 (by decide +kernel) (by decide +kernel)
theorem tb_237 : Cond.methodLink "MiddleOfCourt$Tape" 103 ⟨"MiddleOfCourt$Tape", "nextWord", "()V"⟩ ∈ TBL := TBL_of 237 (by decide +kernel) (by decide +kernel)
theorem tb_239 : Cond.instanceMethod ⟨"MiddleOfCourt$Tape", "nextWord", "()V"⟩ ∈ TBL := TBL_of 239 (by decide +kernel) (by decide +kernel)
theorem tb_240 : Cond.code ⟨"MiddleOfCourt$Tape", "nextWord", "()V"⟩ prog_11_method_21_code 1 none ∈ TBL := TBL_of 240 (by decide +kernel) (by decide +kernel)
theorem tb_241 : Cond.methodLink "MiddleOfCourt$Tape" 115 ⟨"MiddleOfCourt$Tape", "nameOfWord", "()I"⟩ ∈ TBL := TBL_of 241 (by decide +kernel) (by decide +kernel)
theorem tb_243 : Cond.instanceMethod ⟨"MiddleOfCourt$Tape", "nameOfWord", "()I"⟩ ∈ TBL := TBL_of 243 (by decide +kernel) (by decide +kernel)
theorem tb_244 : Cond.code ⟨"MiddleOfCourt$Tape", "nameOfWord", "()I"⟩ prog_11_method_22_code 1 (some .int) ∈ TBL := TBL_of 244 (by decide +kernel) (by decide +kernel)
theorem tb_246 : Cond.methodLink "MiddleOfCourt$Tape" 123 ⟨"MiddleOfCourt$Tape", "isWord", "(Ljava/lang/String;)Z"⟩ ∈ TBL := TBL_of 246 (by decide +kernel) (by decide +kernel)
theorem tb_248 : Cond.instanceMethod ⟨"MiddleOfCourt$Tape", "isWord", "(Ljava/lang/String;)Z"⟩ ∈ TBL := TBL_of 248 (by decide +kernel) (by decide +kernel)
theorem tb_249 : Cond.code ⟨"MiddleOfCourt$Tape", "isWord", "(Ljava/lang/String;)Z"⟩ prog_11_method_24_code 4 (some .boolean) ∈ TBL := TBL_of 249 (by decide +kernel) (by decide +kernel)
theorem tb_255 : Cond.methodLink "MiddleOfCourt$Tape" 118 ⟨"MiddleOfCourt$Tape", "keyOfWord", "()I"⟩ ∈ TBL := TBL_of 255 (by decide +kernel) (by decide +kernel)
theorem tb_257 : Cond.instanceMethod ⟨"MiddleOfCourt$Tape", "keyOfWord", "()I"⟩ ∈ TBL := TBL_of 257 (by decide +kernel) (by decide +kernel)
theorem tb_258 : Cond.code ⟨"MiddleOfCourt$Tape", "keyOfWord", "()I"⟩ prog_11_method_23_code 1 (some .int) ∈ TBL := TBL_of 258 (by decide +kernel) (by decide +kernel)
theorem tb_265 : Cond.methodLink "MiddleOfCourt$Tape" 106 ⟨"MiddleOfCourt$Tape", "isDigit", "(I)Z"⟩ ∈ TBL := TBL_of 265 (by decide +kernel) (by decide +kernel)
theorem tb_266 : Cond.static ⟨"MiddleOfCourt$Tape", "isDigit", "(I)Z"⟩ ∈ TBL := TBL_of 266 (by decide +kernel) (by decide +kernel)
theorem tb_267 : Cond.code ⟨"MiddleOfCourt$Tape", "isDigit", "(I)Z"⟩ prog_11_method_18_code 1 (some .boolean) ∈ TBL := TBL_of 267 (by decide +kernel) (by decide +kernel)
theorem tb_268 : Cond.methodLink "MiddleOfCourt$Tape" 109 ⟨"MiddleOfCourt$Tape", "nextNumber", "()V"⟩ ∈ TBL := TBL_of 268 (by decide +kernel) (by decide +kernel)
theorem tb_270 : Cond.instanceMethod ⟨"MiddleOfCourt$Tape", "nextNumber", "()V"⟩ ∈ TBL := TBL_of 270 (by decide +kernel) (by decide +kernel)
theorem tb_271 : Cond.code ⟨"MiddleOfCourt$Tape", "nextNumber", "()V"⟩ prog_11_method_20_code 1 none ∈ TBL := TBL_of 271 (by decide +kernel) (by decide +kernel)
theorem tb_272 : Cond.methodLink "MiddleOfCourt$Tape" 112 ⟨"MiddleOfCourt$Tape", "isSign", "(I)Z"⟩ ∈ TBL := TBL_of 272 (by decide +kernel) (by decide +kernel)
theorem tb_273 : Cond.static ⟨"MiddleOfCourt$Tape", "isSign", "(I)Z"⟩ ∈ TBL := TBL_of 273 (by decide +kernel) (by decide +kernel)
theorem tb_274 : Cond.code ⟨"MiddleOfCourt$Tape", "isSign", "(I)Z"⟩ prog_11_method_19_code 1 (some .boolean) ∈ TBL := TBL_of 274 (by decide +kernel) (by decide +kernel)
theorem tb_275 : Cond.methodLink "MiddleOfCourt$Tape" 60 ⟨"MiddleOfCourt$Tape", "expect", "(I)V"⟩ ∈ TBL := TBL_of 275 (by decide +kernel) (by decide +kernel)
theorem tb_277 : Cond.instanceMethod ⟨"MiddleOfCourt$Tape", "expect", "(I)V"⟩ ∈ TBL := TBL_of 277 (by decide +kernel) (by decide +kernel)
theorem tb_278 : Cond.code ⟨"MiddleOfCourt$Tape", "expect", "(I)V"⟩ prog_11_method_6_code 2 none ∈ TBL := TBL_of 278 (by decide +kernel) (by decide +kernel)
theorem tb_279 : Cond.methodLink "MiddleOfCourt$Tape" 70 ⟨"MiddleOfCourt$Tape", "fail", "()V"⟩ ∈ TBL := TBL_of 279 (by decide +kernel) (by decide +kernel)
theorem tb_281 : Cond.instanceMethod ⟨"MiddleOfCourt$Tape", "fail", "()V"⟩ ∈ TBL := TBL_of 281 (by decide +kernel) (by decide +kernel)
theorem tb_282 : Cond.code ⟨"MiddleOfCourt$Tape", "fail", "()V"⟩ prog_11_method_5_code 1 none ∈ TBL := TBL_of 282 (by decide +kernel) (by decide +kernel)
theorem tb_283 : Cond.methodLink "MiddleOfCourt$Tape" 64 ⟨"MiddleOfCourt$Tape", "readEither", "(I)V"⟩ ∈ TBL := TBL_of 283 (by decide +kernel) (by decide +kernel)
theorem tb_285 : Cond.instanceMethod ⟨"MiddleOfCourt$Tape", "readEither", "(I)V"⟩ ∈ TBL := TBL_of 285 (by decide +kernel) (by decide +kernel)
theorem tb_286 : Cond.code ⟨"MiddleOfCourt$Tape", "readEither", "(I)V"⟩ prog_11_method_8_code 3 none ∈ TBL := TBL_of 286 (by decide +kernel) (by decide +kernel)
theorem tb_287 : Cond.methodLink "MiddleOfCourt$Tape" 75 ⟨"MiddleOfCourt$Tape", "readBoth", "(I)V"⟩ ∈ TBL := TBL_of 287 (by decide +kernel) (by decide +kernel)
theorem tb_289 : Cond.instanceMethod ⟨"MiddleOfCourt$Tape", "readBoth", "(I)V"⟩ ∈ TBL := TBL_of 289 (by decide +kernel) (by decide +kernel)
theorem tb_290 : Cond.code ⟨"MiddleOfCourt$Tape", "readBoth", "(I)V"⟩ prog_11_method_9_code 3 none ∈ TBL := TBL_of 290 (by decide +kernel) (by decide +kernel)
theorem tb_291 : Cond.methodLink "MiddleOfCourt$Tape" 81 ⟨"MiddleOfCourt$Tape", "readNot", "(I)V"⟩ ∈ TBL := TBL_of 291 (by decide +kernel) (by decide +kernel)
theorem tb_293 : Cond.instanceMethod ⟨"MiddleOfCourt$Tape", "readNot", "(I)V"⟩ ∈ TBL := TBL_of 293 (by decide +kernel) (by decide +kernel)
theorem tb_294 : Cond.code ⟨"MiddleOfCourt$Tape", "readNot", "(I)V"⟩ prog_11_method_10_code 3 none ∈ TBL := TBL_of 294 (by decide +kernel) (by decide +kernel)
theorem tb_295 : Cond.methodLink "MiddleOfCourt$Tape" 84 ⟨"MiddleOfCourt$Tape", "opens", "(I)Z"⟩ ∈ TBL := TBL_of 295 (by decide +kernel) (by decide +kernel)
theorem tb_297 : Cond.instanceMethod ⟨"MiddleOfCourt$Tape", "opens", "(I)Z"⟩ ∈ TBL := TBL_of 297 (by decide +kernel) (by decide +kernel)
theorem tb_298 : Cond.code ⟨"MiddleOfCourt$Tape", "opens", "(I)Z"⟩ prog_11_method_14_code 2 (some .boolean) ∈ TBL := TBL_of 298 (by decide +kernel) (by decide +kernel)
theorem tb_299 : Cond.methodLink "MiddleOfCourt$Tape" 78 ⟨"MiddleOfCourt$Tape", "emit", "(I)V"⟩ ∈ TBL := TBL_of 299 (by decide +kernel) (by decide +kernel)
theorem tb_301 : Cond.instanceMethod ⟨"MiddleOfCourt$Tape", "emit", "(I)V"⟩ ∈ TBL := TBL_of 301 (by decide +kernel) (by decide +kernel)
theorem tb_302 : Cond.code ⟨"MiddleOfCourt$Tape", "emit", "(I)V"⟩ prog_11_method_7_code 2 none ∈ TBL := TBL_of 302 (by decide +kernel) (by decide +kernel)
theorem tb_303 : Cond.methodLink "MiddleOfCourt$Tape" 73 ⟨"MiddleOfCourt$Text", "add", "(I)V"⟩ ∈ TBL := TBL_of 303 (by decide +kernel) (by decide +kernel)
theorem tb_304 : Cond.instanceMethod ⟨"MiddleOfCourt$Text", "add", "(I)V"⟩ ∈ TBL := TBL_of 304 (by decide +kernel) (by decide +kernel)
theorem tb_305 : Cond.selects "MiddleOfCourt$Text" ⟨"MiddleOfCourt$Text", "add", "(I)V"⟩ ⟨"MiddleOfCourt$Text", "add", "(I)V"⟩ ∈ TBL := TBL_of 305 (by decide +kernel) (by decide +kernel)
theorem tb_306 : Cond.code ⟨"MiddleOfCourt$Text", "add", "(I)V"⟩ prog_12_method_3_code 2 none ∈ TBL := TBL_of 306 (by decide +kernel) (by decide +kernel)
theorem tb_307 : Cond.methodLink "MiddleOfCourt$Tape" 87 ⟨"MiddleOfCourt$Tape", "readSum", "(I)V"⟩ ∈ TBL := TBL_of 307 (by decide +kernel) (by decide +kernel)
theorem tb_309 : Cond.instanceMethod ⟨"MiddleOfCourt$Tape", "readSum", "(I)V"⟩ ∈ TBL := TBL_of 309 (by decide +kernel) (by decide +kernel)
theorem tb_310 : Cond.code ⟨"MiddleOfCourt$Tape", "readSum", "(I)V"⟩ prog_11_method_11_code 4 none ∈ TBL := TBL_of 310 (by decide +kernel) (by decide +kernel)
theorem tb_311 : Cond.methodLink "MiddleOfCourt$Tape" 90 ⟨"MiddleOfCourt$Tape", "readTerm", "(I)V"⟩ ∈ TBL := TBL_of 311 (by decide +kernel) (by decide +kernel)
theorem tb_313 : Cond.instanceMethod ⟨"MiddleOfCourt$Tape", "readTerm", "(I)V"⟩ ∈ TBL := TBL_of 313 (by decide +kernel) (by decide +kernel)
theorem tb_314 : Cond.code ⟨"MiddleOfCourt$Tape", "readTerm", "(I)V"⟩ prog_11_method_12_code 3 none ∈ TBL := TBL_of 314 (by decide +kernel) (by decide +kernel)
theorem tb_315 : Cond.methodLink "MiddleOfCourt$Tape" 93 ⟨"MiddleOfCourt$Tape", "readOne", "(I)V"⟩ ∈ TBL := TBL_of 315 (by decide +kernel) (by decide +kernel)
theorem tb_317 : Cond.instanceMethod ⟨"MiddleOfCourt$Tape", "readOne", "(I)V"⟩ ∈ TBL := TBL_of 317 (by decide +kernel) (by decide +kernel)
theorem tb_318 : Cond.code ⟨"MiddleOfCourt$Tape", "readOne", "(I)V"⟩ prog_11_method_13_code 2 none ∈ TBL := TBL_of 318 (by decide +kernel) (by decide +kernel)
theorem tb_319 : Cond.methodLink "MiddleOfCourt$Tape" 67 ⟨"MiddleOfCourt$Text", "endPart", "(I)V"⟩ ∈ TBL := TBL_of 319 (by decide +kernel) (by decide +kernel)
theorem tb_320 : Cond.instanceMethod ⟨"MiddleOfCourt$Text", "endPart", "(I)V"⟩ ∈ TBL := TBL_of 320 (by decide +kernel) (by decide +kernel)
theorem tb_321 : Cond.selects "MiddleOfCourt$Text" ⟨"MiddleOfCourt$Text", "endPart", "(I)V"⟩ ⟨"MiddleOfCourt$Text", "endPart", "(I)V"⟩ ∈ TBL := TBL_of 321 (by decide +kernel) (by decide +kernel)
theorem tb_322 : Cond.code ⟨"MiddleOfCourt$Text", "endPart", "(I)V"⟩ prog_12_method_4_code 2 none ∈ TBL := TBL_of 322 (by decide +kernel) (by decide +kernel)
theorem tb_323 : Cond.instantiable "MiddleOfCourt$Court" 4 ∈ TBL := TBL_of 323 (by decide +kernel) (by decide +kernel)
theorem tb_324 : Cond.methodLink "MiddleOfCourt" 94 ⟨"MiddleOfCourt$Court", "<init>", "(LMiddleOfCourt$Text;)V"⟩ ∈ TBL := TBL_of 324 (by decide +kernel) (by decide +kernel)
theorem tb_325 : Cond.instanceMethod ⟨"MiddleOfCourt$Court", "<init>", "(LMiddleOfCourt$Text;)V"⟩ ∈ TBL := TBL_of 325 (by decide +kernel) (by decide +kernel)
theorem tb_326 : Cond.code ⟨"MiddleOfCourt$Court", "<init>", "(LMiddleOfCourt$Text;)V"⟩ prog_3_method_1_code 2 none ∈ TBL := TBL_of 326 (by decide +kernel) (by decide +kernel)
theorem tb_327 : Cond.methodLink "MiddleOfCourt$Court" 3 ⟨"java/lang/Object", "<init>", "()V"⟩ ∈ TBL := TBL_of 327 (by decide +kernel) (by decide +kernel)
theorem tb_328 : Cond.classLink "MiddleOfCourt$Court" 9 "MiddleOfCourt$Player" ∈ TBL := TBL_of 328 (by decide +kernel) (by decide +kernel)
theorem tb_329 : Cond.instantiable "MiddleOfCourt$Player" 4 ∈ TBL := TBL_of 329 (by decide +kernel) (by decide +kernel)
theorem tb_331 : Cond.instanceMethod ⟨"MiddleOfCourt$Player", "<init>", "()V"⟩ ∈ TBL := TBL_of 331 (by decide +kernel) (by decide +kernel)
theorem tb_332 : Cond.code ⟨"MiddleOfCourt$Player", "<init>", "()V"⟩ prog_8_method_1_code 1 none ∈ TBL := TBL_of 332 (by decide +kernel) (by decide +kernel)
theorem tb_333 : Cond.methodLink "MiddleOfCourt$Player" 3 ⟨"java/lang/Object", "<init>", "()V"⟩ ∈ TBL := TBL_of 333 (by decide +kernel) (by decide +kernel)
theorem tb_334 : Cond.fieldLink "MiddleOfCourt$Player" 9 "MiddleOfCourt$Player" "cell" "I" ∈ TBL := TBL_of 334 (by decide +kernel) (by decide +kernel)
theorem tb_335 : Cond.fieldLink "MiddleOfCourt$Court" 46 "MiddleOfCourt$Player" "cell" "I" ∈ TBL := TBL_of 335 (by decide +kernel) (by decide +kernel)
theorem tb_336 : Cond.fieldLink "MiddleOfCourt" 150 "MiddleOfCourt$Player" "cell" "I" ∈ TBL := TBL_of 336 (by decide +kernel) (by decide +kernel)
theorem tb_337 : Cond.fieldLink "MiddleOfCourt$Player" 15 "MiddleOfCourt$Player" "legs" "I" ∈ TBL := TBL_of 337 (by decide +kernel) (by decide +kernel)
theorem tb_338 : Cond.fieldLink "MiddleOfCourt$Text" 31 "MiddleOfCourt$Player" "legs" "I" ∈ TBL := TBL_of 338 (by decide +kernel) (by decide +kernel)
theorem tb_339 : Cond.fieldLink "MiddleOfCourt" 190 "MiddleOfCourt$Player" "legs" "I" ∈ TBL := TBL_of 339 (by decide +kernel) (by decide +kernel)
theorem tb_340 : Cond.fieldLink "MiddleOfCourt$Player" 18 "MiddleOfCourt$Player" "quick" "I" ∈ TBL := TBL_of 340 (by decide +kernel) (by decide +kernel)
theorem tb_341 : Cond.fieldLink "MiddleOfCourt$Text" 36 "MiddleOfCourt$Player" "quick" "I" ∈ TBL := TBL_of 341 (by decide +kernel) (by decide +kernel)
theorem tb_342 : Cond.fieldLink "MiddleOfCourt" 331 "MiddleOfCourt$Player" "quick" "I" ∈ TBL := TBL_of 342 (by decide +kernel) (by decide +kernel)
theorem tb_343 : Cond.fieldLink "MiddleOfCourt$Player" 21 "MiddleOfCourt$Player" "home" "I" ∈ TBL := TBL_of 343 (by decide +kernel) (by decide +kernel)
theorem tb_344 : Cond.fieldLink "MiddleOfCourt$Court" 89 "MiddleOfCourt$Player" "home" "I" ∈ TBL := TBL_of 344 (by decide +kernel) (by decide +kernel)
theorem tb_345 : Cond.lays "MiddleOfCourt$Player" "MiddleOfCourt$Player" "cell" "I" ∈ TBL := TBL_of 345 (by decide +kernel) (by decide +kernel)
theorem tb_347 : Cond.lays "MiddleOfCourt$Player" "MiddleOfCourt$Player" "legs" "I" ∈ TBL := TBL_of 347 (by decide +kernel) (by decide +kernel)
theorem tb_349 : Cond.lays "MiddleOfCourt$Player" "MiddleOfCourt$Player" "quick" "I" ∈ TBL := TBL_of 349 (by decide +kernel) (by decide +kernel)
theorem tb_351 : Cond.lays "MiddleOfCourt$Player" "MiddleOfCourt$Player" "home" "I" ∈ TBL := TBL_of 351 (by decide +kernel) (by decide +kernel)
theorem tb_353 : Cond.superclass "MiddleOfCourt$Player" "java/lang/Object" ∈ TBL := TBL_of 353 (by decide +kernel) (by decide +kernel)
theorem tb_354 : Cond.arrayClass .byte ∈ TBL := TBL_of 354 (by decide +kernel) (by decide +kernel)
theorem tb_355 : Cond.fieldLink "MiddleOfCourt$Court" 12 "MiddleOfCourt$Court" "first" "LMiddleOfCourt$Player;" ∈ TBL := TBL_of 355 (by decide +kernel) (by decide +kernel)
theorem tb_356 : Cond.fieldLink "MiddleOfCourt" 186 "MiddleOfCourt$Court" "first" "LMiddleOfCourt$Player;" ∈ TBL := TBL_of 356 (by decide +kernel) (by decide +kernel)
theorem tb_357 : Cond.fieldLink "MiddleOfCourt$Court" 18 "MiddleOfCourt$Court" "second" "LMiddleOfCourt$Player;" ∈ TBL := TBL_of 357 (by decide +kernel) (by decide +kernel)
theorem tb_358 : Cond.fieldLink "MiddleOfCourt" 193 "MiddleOfCourt$Court" "second" "LMiddleOfCourt$Player;" ∈ TBL := TBL_of 358 (by decide +kernel) (by decide +kernel)
theorem tb_359 : Cond.fieldLink "MiddleOfCourt$Court" 21 "MiddleOfCourt$Court" "warm" "I" ∈ TBL := TBL_of 359 (by decide +kernel) (by decide +kernel)
theorem tb_360 : Cond.fieldLink "MiddleOfCourt" 112 "MiddleOfCourt$Court" "warm" "I" ∈ TBL := TBL_of 360 (by decide +kernel) (by decide +kernel)
theorem tb_361 : Cond.fieldLink "MiddleOfCourt$Court" 25 "MiddleOfCourt$Court" "rule" "LMiddleOfCourt$Text;" ∈ TBL := TBL_of 361 (by decide +kernel) (by decide +kernel)
theorem tb_362 : Cond.fieldLink "MiddleOfCourt" 173 "MiddleOfCourt$Court" "rule" "LMiddleOfCourt$Text;" ∈ TBL := TBL_of 362 (by decide +kernel) (by decide +kernel)
theorem tb_363 : Cond.laysFinal "MiddleOfCourt$Court" "MiddleOfCourt$Court" "first" "LMiddleOfCourt$Player;" ∈ TBL := TBL_of 363 (by decide +kernel) (by decide +kernel)
theorem tb_365 : Cond.laysFinal "MiddleOfCourt$Court" "MiddleOfCourt$Court" "second" "LMiddleOfCourt$Player;" ∈ TBL := TBL_of 365 (by decide +kernel) (by decide +kernel)
theorem tb_367 : Cond.lays "MiddleOfCourt$Court" "MiddleOfCourt$Court" "warm" "I" ∈ TBL := TBL_of 367 (by decide +kernel) (by decide +kernel)
theorem tb_369 : Cond.lays "MiddleOfCourt$Court" "MiddleOfCourt$Court" "rule" "LMiddleOfCourt$Text;" ∈ TBL := TBL_of 369 (by decide +kernel) (by decide +kernel)
theorem tb_371 : Cond.superclass "MiddleOfCourt$Court" "java/lang/Object" ∈ TBL := TBL_of 371 (by decide +kernel) (by decide +kernel)
theorem tb_372 : Cond.instantiable "MiddleOfCourt$Sheet" 3 ∈ TBL := TBL_of 372 (by decide +kernel) (by decide +kernel)
theorem tb_374 : Cond.instanceMethod ⟨"MiddleOfCourt$Sheet", "<init>", "()V"⟩ ∈ TBL := TBL_of 374 (by decide +kernel) (by decide +kernel)
theorem tb_375 : Cond.code ⟨"MiddleOfCourt$Sheet", "<init>", "()V"⟩ prog_9_method_1_code 1 none ∈ TBL := TBL_of 375 (by decide +kernel) (by decide +kernel)
theorem tb_376 : Cond.methodLink "MiddleOfCourt$Sheet" 3 ⟨"java/lang/Object", "<init>", "()V"⟩ ∈ TBL := TBL_of 376 (by decide +kernel) (by decide +kernel)
theorem tb_377 : Cond.fieldLink "MiddleOfCourt$Sheet" 9 "MiddleOfCourt$Sheet" "items" "[I" ∈ TBL := TBL_of 377 (by decide +kernel) (by decide +kernel)
theorem tb_378 : Cond.fieldLink "MiddleOfCourt" 268 "MiddleOfCourt$Sheet" "items" "[I" ∈ TBL := TBL_of 378 (by decide +kernel) (by decide +kernel)
theorem tb_379 : Cond.fieldLink "MiddleOfCourt$Sheet" 15 "MiddleOfCourt$Sheet" "sort" "I" ∈ TBL := TBL_of 379 (by decide +kernel) (by decide +kernel)
theorem tb_380 : Cond.fieldLink "MiddleOfCourt" 265 "MiddleOfCourt$Sheet" "sort" "I" ∈ TBL := TBL_of 380 (by decide +kernel) (by decide +kernel)
theorem tb_381 : Cond.fieldLink "MiddleOfCourt$Sheet" 19 "MiddleOfCourt$Sheet" "size" "I" ∈ TBL := TBL_of 381 (by decide +kernel) (by decide +kernel)
theorem tb_382 : Cond.fieldLink "MiddleOfCourt" 225 "MiddleOfCourt$Sheet" "size" "I" ∈ TBL := TBL_of 382 (by decide +kernel) (by decide +kernel)
theorem tb_383 : Cond.laysFinal "MiddleOfCourt$Sheet" "MiddleOfCourt$Sheet" "items" "[I" ∈ TBL := TBL_of 383 (by decide +kernel) (by decide +kernel)
theorem tb_385 : Cond.lays "MiddleOfCourt$Sheet" "MiddleOfCourt$Sheet" "sort" "I" ∈ TBL := TBL_of 385 (by decide +kernel) (by decide +kernel)
theorem tb_387 : Cond.lays "MiddleOfCourt$Sheet" "MiddleOfCourt$Sheet" "size" "I" ∈ TBL := TBL_of 387 (by decide +kernel) (by decide +kernel)
theorem tb_389 : Cond.superclass "MiddleOfCourt$Sheet" "java/lang/Object" ∈ TBL := TBL_of 389 (by decide +kernel) (by decide +kernel)
theorem tb_390 : Cond.fieldLink "MiddleOfCourt" 11 "MiddleOfCourt" "texts" "[LMiddleOfCourt$Text;" ∈ TBL := TBL_of 390 (by decide +kernel) (by decide +kernel)
theorem tb_391 : Cond.fieldLink "MiddleOfCourt" 18 "MiddleOfCourt" "tape" "LMiddleOfCourt$Tape;" ∈ TBL := TBL_of 391 (by decide +kernel) (by decide +kernel)
theorem tb_392 : Cond.fieldLink "MiddleOfCourt" 22 "MiddleOfCourt" "textCount" "I" ∈ TBL := TBL_of 392 (by decide +kernel) (by decide +kernel)
theorem tb_393 : Cond.fieldLink "MiddleOfCourt" 28 "MiddleOfCourt" "strokeRow" "[LMiddleOfCourt$Stroke;" ∈ TBL := TBL_of 393 (by decide +kernel) (by decide +kernel)
theorem tb_394 : Cond.fieldLink "MiddleOfCourt" 32 "MiddleOfCourt" "strokeCount" "I" ∈ TBL := TBL_of 394 (by decide +kernel) (by decide +kernel)
theorem tb_395 : Cond.fieldLink "MiddleOfCourt" 97 "MiddleOfCourt" "court" "LMiddleOfCourt$Court;" ∈ TBL := TBL_of 395 (by decide +kernel) (by decide +kernel)
theorem tb_396 : Cond.fieldLink "MiddleOfCourt" 101 "MiddleOfCourt" "thought" "LMiddleOfCourt$Court;" ∈ TBL := TBL_of 396 (by decide +kernel) (by decide +kernel)
theorem tb_397 : Cond.fieldLink "MiddleOfCourt" 37 "MiddleOfCourt" "ahead" "[LMiddleOfCourt$Court;" ∈ TBL := TBL_of 397 (by decide +kernel) (by decide +kernel)
theorem tb_398 : Cond.fieldLink "MiddleOfCourt" 104 "MiddleOfCourt" "imageCourt" "LMiddleOfCourt$Court;" ∈ TBL := TBL_of 398 (by decide +kernel) (by decide +kernel)
theorem tb_399 : Cond.fieldLink "MiddleOfCourt" 41 "MiddleOfCourt" "imageNumbers" "[I" ∈ TBL := TBL_of 399 (by decide +kernel) (by decide +kernel)
theorem tb_400 : Cond.fieldLink "MiddleOfCourt" 45 "MiddleOfCourt" "imageAims" "[I" ∈ TBL := TBL_of 400 (by decide +kernel) (by decide +kernel)
theorem tb_401 : Cond.fieldLink "MiddleOfCourt" 48 "MiddleOfCourt" "imageStrokes" "I" ∈ TBL := TBL_of 401 (by decide +kernel) (by decide +kernel)
theorem tb_402 : Cond.fieldLink "MiddleOfCourt" 53 "MiddleOfCourt" "sheets" "[LMiddleOfCourt$Sheet;" ∈ TBL := TBL_of 402 (by decide +kernel) (by decide +kernel)
theorem tb_403 : Cond.fieldLink "MiddleOfCourt" 57 "MiddleOfCourt" "landed" "[I" ∈ TBL := TBL_of 403 (by decide +kernel) (by decide +kernel)
theorem tb_404 : Cond.fieldLink "MiddleOfCourt" 60 "MiddleOfCourt" "struck" "I" ∈ TBL := TBL_of 404 (by decide +kernel) (by decide +kernel)
theorem tb_405 : Cond.fieldLink "MiddleOfCourt" 65 "MiddleOfCourt" "odds" "J" ∈ TBL := TBL_of 405 (by decide +kernel) (by decide +kernel)
theorem tb_406 : Cond.fieldLink "MiddleOfCourt" 69 "MiddleOfCourt" "blockedAt" "I" ∈ TBL := TBL_of 406 (by decide +kernel) (by decide +kernel)
theorem tb_407 : Cond.fieldLink "MiddleOfCourt" 72 "MiddleOfCourt" "chosen" "I" ∈ TBL := TBL_of 407 (by decide +kernel) (by decide +kernel)
theorem tb_408 : Cond.fieldLink "MiddleOfCourt" 75 "MiddleOfCourt" "firstRow" "I" ∈ TBL := TBL_of 408 (by decide +kernel) (by decide +kernel)
theorem tb_409 : Cond.laysFinal "MiddleOfCourt" "MiddleOfCourt" "texts" "[LMiddleOfCourt$Text;" ∈ TBL := TBL_of 409 (by decide +kernel) (by decide +kernel)
theorem tb_411 : Cond.laysFinal "MiddleOfCourt" "MiddleOfCourt" "tape" "LMiddleOfCourt$Tape;" ∈ TBL := TBL_of 411 (by decide +kernel) (by decide +kernel)
theorem tb_413 : Cond.lays "MiddleOfCourt" "MiddleOfCourt" "textCount" "I" ∈ TBL := TBL_of 413 (by decide +kernel) (by decide +kernel)
theorem tb_415 : Cond.laysFinal "MiddleOfCourt" "MiddleOfCourt" "strokeRow" "[LMiddleOfCourt$Stroke;" ∈ TBL := TBL_of 415 (by decide +kernel) (by decide +kernel)
theorem tb_417 : Cond.lays "MiddleOfCourt" "MiddleOfCourt" "strokeCount" "I" ∈ TBL := TBL_of 417 (by decide +kernel) (by decide +kernel)
theorem tb_419 : Cond.laysFinal "MiddleOfCourt" "MiddleOfCourt" "court" "LMiddleOfCourt$Court;" ∈ TBL := TBL_of 419 (by decide +kernel) (by decide +kernel)
theorem tb_421 : Cond.laysFinal "MiddleOfCourt" "MiddleOfCourt" "thought" "LMiddleOfCourt$Court;" ∈ TBL := TBL_of 421 (by decide +kernel) (by decide +kernel)
theorem tb_423 : Cond.laysFinal "MiddleOfCourt" "MiddleOfCourt" "ahead" "[LMiddleOfCourt$Court;" ∈ TBL := TBL_of 423 (by decide +kernel) (by decide +kernel)
theorem tb_425 : Cond.laysFinal "MiddleOfCourt" "MiddleOfCourt" "imageCourt" "LMiddleOfCourt$Court;" ∈ TBL := TBL_of 425 (by decide +kernel) (by decide +kernel)
theorem tb_427 : Cond.laysFinal "MiddleOfCourt" "MiddleOfCourt" "imageNumbers" "[I" ∈ TBL := TBL_of 427 (by decide +kernel) (by decide +kernel)
theorem tb_429 : Cond.laysFinal "MiddleOfCourt" "MiddleOfCourt" "imageAims" "[I" ∈ TBL := TBL_of 429 (by decide +kernel) (by decide +kernel)
theorem tb_431 : Cond.lays "MiddleOfCourt" "MiddleOfCourt" "imageStrokes" "I" ∈ TBL := TBL_of 431 (by decide +kernel) (by decide +kernel)
theorem tb_433 : Cond.laysFinal "MiddleOfCourt" "MiddleOfCourt" "sheets" "[LMiddleOfCourt$Sheet;" ∈ TBL := TBL_of 433 (by decide +kernel) (by decide +kernel)
theorem tb_435 : Cond.laysFinal "MiddleOfCourt" "MiddleOfCourt" "landed" "[I" ∈ TBL := TBL_of 435 (by decide +kernel) (by decide +kernel)
theorem tb_437 : Cond.lays "MiddleOfCourt" "MiddleOfCourt" "struck" "I" ∈ TBL := TBL_of 437 (by decide +kernel) (by decide +kernel)
theorem tb_439 : Cond.lays "MiddleOfCourt" "MiddleOfCourt" "odds" "J" ∈ TBL := TBL_of 439 (by decide +kernel) (by decide +kernel)
theorem tb_441 : Cond.lays "MiddleOfCourt" "MiddleOfCourt" "blockedAt" "I" ∈ TBL := TBL_of 441 (by decide +kernel) (by decide +kernel)
theorem tb_443 : Cond.lays "MiddleOfCourt" "MiddleOfCourt" "chosen" "I" ∈ TBL := TBL_of 443 (by decide +kernel) (by decide +kernel)
theorem tb_445 : Cond.lays "MiddleOfCourt" "MiddleOfCourt" "firstRow" "I" ∈ TBL := TBL_of 445 (by decide +kernel) (by decide +kernel)
theorem tb_447 : Cond.superclass "MiddleOfCourt" "java/lang/Object" ∈ TBL := TBL_of 447 (by decide +kernel) (by decide +kernel)
theorem tb_448 : Cond.methodLink "MiddleOfCourtLaw" 13 ⟨"MiddleOfCourt", "set", "(III)I"⟩ ∈ TBL := TBL_of 448 (by decide +kernel) (by decide +kernel)
theorem tb_449 : Cond.instanceMethod ⟨"MiddleOfCourt", "set", "(III)I"⟩ ∈ TBL := TBL_of 449 (by decide +kernel) (by decide +kernel)
theorem tb_450 : Cond.selects "MiddleOfCourt" ⟨"MiddleOfCourt", "set", "(III)I"⟩ ⟨"MiddleOfCourt", "set", "(III)I"⟩ ∈ TBL := TBL_of 450 (by decide +kernel) (by decide +kernel)
theorem tb_451 : Cond.code ⟨"MiddleOfCourt", "set", "(III)I"⟩ prog_1_method_2_code 5 (some .int) ∈ TBL := TBL_of 451 (by decide +kernel) (by decide +kernel)
theorem tb_452 : Cond.methodLink "MiddleOfCourt" 108 ⟨"MiddleOfCourt", "fits", "(II)Z"⟩ ∈ TBL := TBL_of 452 (by decide +kernel) (by decide +kernel)
theorem tb_453 : Cond.static ⟨"MiddleOfCourt", "fits", "(II)Z"⟩ ∈ TBL := TBL_of 453 (by decide +kernel) (by decide +kernel)
theorem tb_454 : Cond.code ⟨"MiddleOfCourt", "fits", "(II)Z"⟩ prog_1_method_35_code 2 (some .boolean) ∈ TBL := TBL_of 454 (by decide +kernel) (by decide +kernel)
theorem tb_455 : Cond.methodLink "MiddleOfCourt" 134 ⟨"MiddleOfCourt", "isCell", "(I)Z"⟩ ∈ TBL := TBL_of 455 (by decide +kernel) (by decide +kernel)
theorem tb_456 : Cond.static ⟨"MiddleOfCourt", "isCell", "(I)Z"⟩ ∈ TBL := TBL_of 456 (by decide +kernel) (by decide +kernel)
theorem tb_457 : Cond.code ⟨"MiddleOfCourt", "isCell", "(I)Z"⟩ prog_1_method_32_code 1 (some .boolean) ∈ TBL := TBL_of 457 (by decide +kernel) (by decide +kernel)
theorem tb_458 : Cond.methodLink "MiddleOfCourt" 115 ⟨"MiddleOfCourt", "isPlayer", "(I)Z"⟩ ∈ TBL := TBL_of 458 (by decide +kernel) (by decide +kernel)
theorem tb_459 : Cond.static ⟨"MiddleOfCourt", "isPlayer", "(I)Z"⟩ ∈ TBL := TBL_of 459 (by decide +kernel) (by decide +kernel)
theorem tb_460 : Cond.code ⟨"MiddleOfCourt", "isPlayer", "(I)Z"⟩ prog_1_method_31_code 1 (some .boolean) ∈ TBL := TBL_of 460 (by decide +kernel) (by decide +kernel)
theorem tb_461 : Cond.methodLink "MiddleOfCourt" 119 ⟨"MiddleOfCourt$Court", "one", "(I)LMiddleOfCourt$Player;"⟩ ∈ TBL := TBL_of 461 (by decide +kernel) (by decide +kernel)
theorem tb_462 : Cond.instanceMethod ⟨"MiddleOfCourt$Court", "one", "(I)LMiddleOfCourt$Player;"⟩ ∈ TBL := TBL_of 462 (by decide +kernel) (by decide +kernel)
theorem tb_463 : Cond.selects "MiddleOfCourt$Court" ⟨"MiddleOfCourt$Court", "one", "(I)LMiddleOfCourt$Player;"⟩ ⟨"MiddleOfCourt$Court", "one", "(I)LMiddleOfCourt$Player;"⟩ ∈ TBL := TBL_of 463 (by decide +kernel) (by decide +kernel)
theorem tb_464 : Cond.code ⟨"MiddleOfCourt$Court", "one", "(I)LMiddleOfCourt$Player;"⟩ prog_3_method_3_code 2 (some (.object "MiddleOfCourt$Player")) ∈ TBL := TBL_of 464 (by decide +kernel) (by decide +kernel)
theorem tb_465 : Cond.methodLink "MiddleOfCourt" 123 ⟨"MiddleOfCourt$Player", "change", "(II)I"⟩ ∈ TBL := TBL_of 465 (by decide +kernel) (by decide +kernel)
theorem tb_466 : Cond.instanceMethod ⟨"MiddleOfCourt$Player", "change", "(II)I"⟩ ∈ TBL := TBL_of 466 (by decide +kernel) (by decide +kernel)
theorem tb_467 : Cond.selects "MiddleOfCourt$Player" ⟨"MiddleOfCourt$Player", "change", "(II)I"⟩ ⟨"MiddleOfCourt$Player", "change", "(II)I"⟩ ∈ TBL := TBL_of 467 (by decide +kernel) (by decide +kernel)
theorem tb_468 : Cond.code ⟨"MiddleOfCourt$Player", "change", "(II)I"⟩ prog_8_method_6_code 4 (some .int) ∈ TBL := TBL_of 468 (by decide +kernel) (by decide +kernel)
theorem tb_469 : Cond.methodLink "MiddleOfCourt$Player" 37 ⟨"MiddleOfCourt$Player", "value", "(I)I"⟩ ∈ TBL := TBL_of 469 (by decide +kernel) (by decide +kernel)
theorem tb_470 : Cond.instanceMethod ⟨"MiddleOfCourt$Player", "value", "(I)I"⟩ ∈ TBL := TBL_of 470 (by decide +kernel) (by decide +kernel)
theorem tb_471 : Cond.selects "MiddleOfCourt$Player" ⟨"MiddleOfCourt$Player", "value", "(I)I"⟩ ⟨"MiddleOfCourt$Player", "value", "(I)I"⟩ ∈ TBL := TBL_of 471 (by decide +kernel) (by decide +kernel)
theorem tb_472 : Cond.code ⟨"MiddleOfCourt$Player", "value", "(I)I"⟩ prog_8_method_5_code 2 (some .int) ∈ TBL := TBL_of 472 (by decide +kernel) (by decide +kernel)
theorem tb_473 : Cond.methodLink "MiddleOfCourt" 129 ⟨"MiddleOfCourt", "strokeAt", "(I)LMiddleOfCourt$Stroke;"⟩ ∈ TBL := TBL_of 473 (by decide +kernel) (by decide +kernel)
theorem tb_475 : Cond.instanceMethod ⟨"MiddleOfCourt", "strokeAt", "(I)LMiddleOfCourt$Stroke;"⟩ ∈ TBL := TBL_of 475 (by decide +kernel) (by decide +kernel)
theorem tb_476 : Cond.code ⟨"MiddleOfCourt", "strokeAt", "(I)LMiddleOfCourt$Stroke;"⟩ prog_1_method_33_code 2 (some (.object "MiddleOfCourt$Stroke")) ∈ TBL := TBL_of 476 (by decide +kernel) (by decide +kernel)
theorem tb_477 : Cond.methodLink "MiddleOfCourt" 133 ⟨"MiddleOfCourt$Stroke", "change", "(II)I"⟩ ∈ TBL := TBL_of 477 (by decide +kernel) (by decide +kernel)
theorem tb_478 : Cond.instanceMethod ⟨"MiddleOfCourt$Stroke", "change", "(II)I"⟩ ∈ TBL := TBL_of 478 (by decide +kernel) (by decide +kernel)
theorem tb_479 : Cond.selects "MiddleOfCourt$Stroke" ⟨"MiddleOfCourt$Stroke", "change", "(II)I"⟩ ⟨"MiddleOfCourt$Stroke", "change", "(II)I"⟩ ∈ TBL := TBL_of 479 (by decide +kernel) (by decide +kernel)
theorem tb_480 : Cond.sameMethod "MiddleOfCourt$Stroke" "MiddleOfCourt$Stroke" "change" "(II)I" ∈ TBL := TBL_of 480 (by decide +kernel) (by decide +kernel)
theorem tb_481 : Cond.selects "MiddleOfCourt$Boast" ⟨"MiddleOfCourt$Stroke", "change", "(II)I"⟩ ⟨"MiddleOfCourt$Stroke", "change", "(II)I"⟩ ∈ TBL := TBL_of 481 (by decide +kernel) (by decide +kernel)
theorem tb_482 : Cond.selects "MiddleOfCourt$Cross" ⟨"MiddleOfCourt$Stroke", "change", "(II)I"⟩ ⟨"MiddleOfCourt$Stroke", "change", "(II)I"⟩ ∈ TBL := TBL_of 482 (by decide +kernel) (by decide +kernel)
theorem tb_483 : Cond.selects "MiddleOfCourt$Drop" ⟨"MiddleOfCourt$Stroke", "change", "(II)I"⟩ ⟨"MiddleOfCourt$Stroke", "change", "(II)I"⟩ ∈ TBL := TBL_of 483 (by decide +kernel) (by decide +kernel)
theorem tb_484 : Cond.selects "MiddleOfCourt$Length" ⟨"MiddleOfCourt$Stroke", "change", "(II)I"⟩ ⟨"MiddleOfCourt$Stroke", "change", "(II)I"⟩ ∈ TBL := TBL_of 484 (by decide +kernel) (by decide +kernel)
theorem tb_485 : Cond.selects "MiddleOfCourt$Lob" ⟨"MiddleOfCourt$Stroke", "change", "(II)I"⟩ ⟨"MiddleOfCourt$Stroke", "change", "(II)I"⟩ ∈ TBL := TBL_of 485 (by decide +kernel) (by decide +kernel)
theorem tb_486 : Cond.code ⟨"MiddleOfCourt$Stroke", "change", "(II)I"⟩ prog_10_method_7_code 4 (some .int) ∈ TBL := TBL_of 486 (by decide +kernel) (by decide +kernel)
theorem tb_487 : Cond.methodLink "MiddleOfCourt$Stroke" 18 ⟨"MiddleOfCourt$Stroke", "value", "(I)I"⟩ ∈ TBL := TBL_of 487 (by decide +kernel) (by decide +kernel)
theorem tb_488 : Cond.instanceMethod ⟨"MiddleOfCourt$Stroke", "value", "(I)I"⟩ ∈ TBL := TBL_of 488 (by decide +kernel) (by decide +kernel)
theorem tb_489 : Cond.selects "MiddleOfCourt$Stroke" ⟨"MiddleOfCourt$Stroke", "value", "(I)I"⟩ ⟨"MiddleOfCourt$Stroke", "value", "(I)I"⟩ ∈ TBL := TBL_of 489 (by decide +kernel) (by decide +kernel)
theorem tb_490 : Cond.sameMethod "MiddleOfCourt$Stroke" "MiddleOfCourt$Stroke" "value" "(I)I" ∈ TBL := TBL_of 490 (by decide +kernel) (by decide +kernel)
theorem tb_491 : Cond.selects "MiddleOfCourt$Boast" ⟨"MiddleOfCourt$Stroke", "value", "(I)I"⟩ ⟨"MiddleOfCourt$Stroke", "value", "(I)I"⟩ ∈ TBL := TBL_of 491 (by decide +kernel) (by decide +kernel)
theorem tb_492 : Cond.selects "MiddleOfCourt$Cross" ⟨"MiddleOfCourt$Stroke", "value", "(I)I"⟩ ⟨"MiddleOfCourt$Stroke", "value", "(I)I"⟩ ∈ TBL := TBL_of 492 (by decide +kernel) (by decide +kernel)
theorem tb_493 : Cond.selects "MiddleOfCourt$Drop" ⟨"MiddleOfCourt$Stroke", "value", "(I)I"⟩ ⟨"MiddleOfCourt$Stroke", "value", "(I)I"⟩ ∈ TBL := TBL_of 493 (by decide +kernel) (by decide +kernel)
theorem tb_494 : Cond.selects "MiddleOfCourt$Length" ⟨"MiddleOfCourt$Stroke", "value", "(I)I"⟩ ⟨"MiddleOfCourt$Stroke", "value", "(I)I"⟩ ∈ TBL := TBL_of 494 (by decide +kernel) (by decide +kernel)
theorem tb_495 : Cond.selects "MiddleOfCourt$Lob" ⟨"MiddleOfCourt$Stroke", "value", "(I)I"⟩ ⟨"MiddleOfCourt$Stroke", "value", "(I)I"⟩ ∈ TBL := TBL_of 495 (by decide +kernel) (by decide +kernel)
theorem tb_496 : Cond.code ⟨"MiddleOfCourt$Stroke", "value", "(I)I"⟩ prog_10_method_6_code 2 (some .int) ∈ TBL := TBL_of 496 (by decide +kernel) (by decide +kernel)
theorem tb_497 : Cond.methodLink "MiddleOfCourtLaw" 18 ⟨"MiddleOfCourt", "stroke", "(III)I"⟩ ∈ TBL := TBL_of 497 (by decide +kernel) (by decide +kernel)
theorem tb_498 : Cond.instanceMethod ⟨"MiddleOfCourt", "stroke", "(III)I"⟩ ∈ TBL := TBL_of 498 (by decide +kernel) (by decide +kernel)
theorem tb_499 : Cond.selects "MiddleOfCourt" ⟨"MiddleOfCourt", "stroke", "(III)I"⟩ ⟨"MiddleOfCourt", "stroke", "(III)I"⟩ ∈ TBL := TBL_of 499 (by decide +kernel) (by decide +kernel)
theorem tb_500 : Cond.code ⟨"MiddleOfCourt", "stroke", "(III)I"⟩ prog_1_method_3_code 4 (some .int) ∈ TBL := TBL_of 500 (by decide +kernel) (by decide +kernel)
theorem tb_501 : Cond.methodLink "MiddleOfCourt" 137 ⟨"MiddleOfCourt", "newStroke", "(III)LMiddleOfCourt$Stroke;"⟩ ∈ TBL := TBL_of 501 (by decide +kernel) (by decide +kernel)
theorem tb_502 : Cond.static ⟨"MiddleOfCourt", "newStroke", "(III)LMiddleOfCourt$Stroke;"⟩ ∈ TBL := TBL_of 502 (by decide +kernel) (by decide +kernel)
theorem tb_503 : Cond.code ⟨"MiddleOfCourt", "newStroke", "(III)LMiddleOfCourt$Stroke;"⟩ prog_1_method_36_code 3 (some (.object "MiddleOfCourt$Stroke")) ∈ TBL := TBL_of 503 (by decide +kernel) (by decide +kernel)
theorem tb_504 : Cond.classLink "MiddleOfCourt" 288 "MiddleOfCourt$Length" ∈ TBL := TBL_of 504 (by decide +kernel) (by decide +kernel)
theorem tb_505 : Cond.instantiable "MiddleOfCourt$Length" 2 ∈ TBL := TBL_of 505 (by decide +kernel) (by decide +kernel)
theorem tb_506 : Cond.methodLink "MiddleOfCourt" 290 ⟨"MiddleOfCourt$Length", "<init>", "(II)V"⟩ ∈ TBL := TBL_of 506 (by decide +kernel) (by decide +kernel)
theorem tb_507 : Cond.instanceMethod ⟨"MiddleOfCourt$Length", "<init>", "(II)V"⟩ ∈ TBL := TBL_of 507 (by decide +kernel) (by decide +kernel)
theorem tb_508 : Cond.code ⟨"MiddleOfCourt$Length", "<init>", "(II)V"⟩ prog_6_method_1_code 3 none ∈ TBL := TBL_of 508 (by decide +kernel) (by decide +kernel)
theorem tb_509 : Cond.methodLink "MiddleOfCourt$Length" 3 ⟨"MiddleOfCourt$Stroke", "<init>", "(II)V"⟩ ∈ TBL := TBL_of 509 (by decide +kernel) (by decide +kernel)
theorem tb_510 : Cond.instanceMethod ⟨"MiddleOfCourt$Stroke", "<init>", "(II)V"⟩ ∈ TBL := TBL_of 510 (by decide +kernel) (by decide +kernel)
theorem tb_511 : Cond.code ⟨"MiddleOfCourt$Stroke", "<init>", "(II)V"⟩ prog_10_method_1_code 3 none ∈ TBL := TBL_of 511 (by decide +kernel) (by decide +kernel)
theorem tb_512 : Cond.methodLink "MiddleOfCourt$Stroke" 3 ⟨"java/lang/Object", "<init>", "()V"⟩ ∈ TBL := TBL_of 512 (by decide +kernel) (by decide +kernel)
theorem tb_513 : Cond.fieldLink "MiddleOfCourt$Stroke" 9 "MiddleOfCourt$Stroke" "number" "I" ∈ TBL := TBL_of 513 (by decide +kernel) (by decide +kernel)
theorem tb_514 : Cond.fieldLink "MiddleOfCourt$Length" 13 "MiddleOfCourt$Length" "number" "I" ∈ TBL := TBL_of 514 (by decide +kernel) (by decide +kernel)
theorem tb_515 : Cond.sameField "MiddleOfCourt$Length" "MiddleOfCourt$Stroke" "number" "I" ∈ TBL := TBL_of 515 (by decide +kernel) (by decide +kernel)
theorem tb_516 : Cond.fieldLink "MiddleOfCourt$Drop" 17 "MiddleOfCourt$Drop" "number" "I" ∈ TBL := TBL_of 516 (by decide +kernel) (by decide +kernel)
theorem tb_517 : Cond.sameField "MiddleOfCourt$Drop" "MiddleOfCourt$Stroke" "number" "I" ∈ TBL := TBL_of 517 (by decide +kernel) (by decide +kernel)
theorem tb_518 : Cond.fieldLink "MiddleOfCourt$Court" 55 "MiddleOfCourt$Stroke" "number" "I" ∈ TBL := TBL_of 518 (by decide +kernel) (by decide +kernel)
theorem tb_519 : Cond.fieldLink "MiddleOfCourt" 256 "MiddleOfCourt$Stroke" "number" "I" ∈ TBL := TBL_of 519 (by decide +kernel) (by decide +kernel)
theorem tb_520 : Cond.fieldLink "MiddleOfCourt$Stroke" 15 "MiddleOfCourt$Stroke" "aim" "I" ∈ TBL := TBL_of 520 (by decide +kernel) (by decide +kernel)
theorem tb_521 : Cond.fieldLink "MiddleOfCourt$Boast" 9 "MiddleOfCourt$Boast" "aim" "I" ∈ TBL := TBL_of 521 (by decide +kernel) (by decide +kernel)
theorem tb_522 : Cond.sameField "MiddleOfCourt$Boast" "MiddleOfCourt$Stroke" "aim" "I" ∈ TBL := TBL_of 522 (by decide +kernel) (by decide +kernel)
theorem tb_523 : Cond.fieldLink "MiddleOfCourt$Lob" 9 "MiddleOfCourt$Lob" "aim" "I" ∈ TBL := TBL_of 523 (by decide +kernel) (by decide +kernel)
theorem tb_524 : Cond.sameField "MiddleOfCourt$Lob" "MiddleOfCourt$Stroke" "aim" "I" ∈ TBL := TBL_of 524 (by decide +kernel) (by decide +kernel)
theorem tb_525 : Cond.fieldLink "MiddleOfCourt" 259 "MiddleOfCourt$Stroke" "aim" "I" ∈ TBL := TBL_of 525 (by decide +kernel) (by decide +kernel)
theorem tb_526 : Cond.lays "MiddleOfCourt$Length" "MiddleOfCourt$Stroke" "number" "I" ∈ TBL := TBL_of 526 (by decide +kernel) (by decide +kernel)
theorem tb_528 : Cond.lays "MiddleOfCourt$Length" "MiddleOfCourt$Stroke" "aim" "I" ∈ TBL := TBL_of 528 (by decide +kernel) (by decide +kernel)
theorem tb_530 : Cond.superclass "MiddleOfCourt$Length" "MiddleOfCourt$Stroke" ∈ TBL := TBL_of 530 (by decide +kernel) (by decide +kernel)
theorem tb_531 : Cond.classLink "MiddleOfCourt" 292 "MiddleOfCourt$Drop" ∈ TBL := TBL_of 531 (by decide +kernel) (by decide +kernel)
theorem tb_532 : Cond.instantiable "MiddleOfCourt$Drop" 2 ∈ TBL := TBL_of 532 (by decide +kernel) (by decide +kernel)
theorem tb_533 : Cond.methodLink "MiddleOfCourt" 294 ⟨"MiddleOfCourt$Drop", "<init>", "(II)V"⟩ ∈ TBL := TBL_of 533 (by decide +kernel) (by decide +kernel)
theorem tb_534 : Cond.instanceMethod ⟨"MiddleOfCourt$Drop", "<init>", "(II)V"⟩ ∈ TBL := TBL_of 534 (by decide +kernel) (by decide +kernel)
theorem tb_535 : Cond.code ⟨"MiddleOfCourt$Drop", "<init>", "(II)V"⟩ prog_5_method_1_code 3 none ∈ TBL := TBL_of 535 (by decide +kernel) (by decide +kernel)
theorem tb_536 : Cond.methodLink "MiddleOfCourt$Drop" 3 ⟨"MiddleOfCourt$Stroke", "<init>", "(II)V"⟩ ∈ TBL := TBL_of 536 (by decide +kernel) (by decide +kernel)
theorem tb_537 : Cond.lays "MiddleOfCourt$Drop" "MiddleOfCourt$Stroke" "number" "I" ∈ TBL := TBL_of 537 (by decide +kernel) (by decide +kernel)
theorem tb_538 : Cond.lays "MiddleOfCourt$Drop" "MiddleOfCourt$Stroke" "aim" "I" ∈ TBL := TBL_of 538 (by decide +kernel) (by decide +kernel)
theorem tb_539 : Cond.superclass "MiddleOfCourt$Drop" "MiddleOfCourt$Stroke" ∈ TBL := TBL_of 539 (by decide +kernel) (by decide +kernel)
theorem tb_540 : Cond.classLink "MiddleOfCourt" 295 "MiddleOfCourt$Lob" ∈ TBL := TBL_of 540 (by decide +kernel) (by decide +kernel)
theorem tb_541 : Cond.instantiable "MiddleOfCourt$Lob" 2 ∈ TBL := TBL_of 541 (by decide +kernel) (by decide +kernel)
theorem tb_542 : Cond.methodLink "MiddleOfCourt" 297 ⟨"MiddleOfCourt$Lob", "<init>", "(II)V"⟩ ∈ TBL := TBL_of 542 (by decide +kernel) (by decide +kernel)
theorem tb_543 : Cond.instanceMethod ⟨"MiddleOfCourt$Lob", "<init>", "(II)V"⟩ ∈ TBL := TBL_of 543 (by decide +kernel) (by decide +kernel)
theorem tb_544 : Cond.code ⟨"MiddleOfCourt$Lob", "<init>", "(II)V"⟩ prog_7_method_1_code 3 none ∈ TBL := TBL_of 544 (by decide +kernel) (by decide +kernel)
theorem tb_545 : Cond.methodLink "MiddleOfCourt$Lob" 3 ⟨"MiddleOfCourt$Length", "<init>", "(II)V"⟩ ∈ TBL := TBL_of 545 (by decide +kernel) (by decide +kernel)
theorem tb_546 : Cond.lays "MiddleOfCourt$Lob" "MiddleOfCourt$Stroke" "number" "I" ∈ TBL := TBL_of 546 (by decide +kernel) (by decide +kernel)
theorem tb_547 : Cond.lays "MiddleOfCourt$Lob" "MiddleOfCourt$Stroke" "aim" "I" ∈ TBL := TBL_of 547 (by decide +kernel) (by decide +kernel)
theorem tb_548 : Cond.superclass "MiddleOfCourt$Lob" "MiddleOfCourt$Length" ∈ TBL := TBL_of 548 (by decide +kernel) (by decide +kernel)
theorem tb_549 : Cond.classLink "MiddleOfCourt" 298 "MiddleOfCourt$Boast" ∈ TBL := TBL_of 549 (by decide +kernel) (by decide +kernel)
theorem tb_550 : Cond.instantiable "MiddleOfCourt$Boast" 2 ∈ TBL := TBL_of 550 (by decide +kernel) (by decide +kernel)
theorem tb_551 : Cond.methodLink "MiddleOfCourt" 300 ⟨"MiddleOfCourt$Boast", "<init>", "(II)V"⟩ ∈ TBL := TBL_of 551 (by decide +kernel) (by decide +kernel)
theorem tb_552 : Cond.instanceMethod ⟨"MiddleOfCourt$Boast", "<init>", "(II)V"⟩ ∈ TBL := TBL_of 552 (by decide +kernel) (by decide +kernel)
theorem tb_553 : Cond.code ⟨"MiddleOfCourt$Boast", "<init>", "(II)V"⟩ prog_2_method_1_code 3 none ∈ TBL := TBL_of 553 (by decide +kernel) (by decide +kernel)
theorem tb_554 : Cond.methodLink "MiddleOfCourt$Boast" 3 ⟨"MiddleOfCourt$Drop", "<init>", "(II)V"⟩ ∈ TBL := TBL_of 554 (by decide +kernel) (by decide +kernel)
theorem tb_555 : Cond.lays "MiddleOfCourt$Boast" "MiddleOfCourt$Stroke" "number" "I" ∈ TBL := TBL_of 555 (by decide +kernel) (by decide +kernel)
theorem tb_556 : Cond.lays "MiddleOfCourt$Boast" "MiddleOfCourt$Stroke" "aim" "I" ∈ TBL := TBL_of 556 (by decide +kernel) (by decide +kernel)
theorem tb_557 : Cond.superclass "MiddleOfCourt$Boast" "MiddleOfCourt$Drop" ∈ TBL := TBL_of 557 (by decide +kernel) (by decide +kernel)
theorem tb_558 : Cond.classLink "MiddleOfCourt" 301 "MiddleOfCourt$Cross" ∈ TBL := TBL_of 558 (by decide +kernel) (by decide +kernel)
theorem tb_559 : Cond.instantiable "MiddleOfCourt$Cross" 2 ∈ TBL := TBL_of 559 (by decide +kernel) (by decide +kernel)
theorem tb_560 : Cond.methodLink "MiddleOfCourt" 303 ⟨"MiddleOfCourt$Cross", "<init>", "(II)V"⟩ ∈ TBL := TBL_of 560 (by decide +kernel) (by decide +kernel)
theorem tb_561 : Cond.instanceMethod ⟨"MiddleOfCourt$Cross", "<init>", "(II)V"⟩ ∈ TBL := TBL_of 561 (by decide +kernel) (by decide +kernel)
theorem tb_562 : Cond.code ⟨"MiddleOfCourt$Cross", "<init>", "(II)V"⟩ prog_4_method_1_code 3 none ∈ TBL := TBL_of 562 (by decide +kernel) (by decide +kernel)
theorem tb_563 : Cond.methodLink "MiddleOfCourt$Cross" 3 ⟨"MiddleOfCourt$Length", "<init>", "(II)V"⟩ ∈ TBL := TBL_of 563 (by decide +kernel) (by decide +kernel)
theorem tb_564 : Cond.lays "MiddleOfCourt$Cross" "MiddleOfCourt$Stroke" "number" "I" ∈ TBL := TBL_of 564 (by decide +kernel) (by decide +kernel)
theorem tb_565 : Cond.lays "MiddleOfCourt$Cross" "MiddleOfCourt$Stroke" "aim" "I" ∈ TBL := TBL_of 565 (by decide +kernel) (by decide +kernel)
theorem tb_566 : Cond.superclass "MiddleOfCourt$Cross" "MiddleOfCourt$Length" ∈ TBL := TBL_of 566 (by decide +kernel) (by decide +kernel)
theorem tb_567 : Cond.instantiable "MiddleOfCourt$Stroke" 2 ∈ TBL := TBL_of 567 (by decide +kernel) (by decide +kernel)
theorem tb_568 : Cond.methodLink "MiddleOfCourt" 304 ⟨"MiddleOfCourt$Stroke", "<init>", "(II)V"⟩ ∈ TBL := TBL_of 568 (by decide +kernel) (by decide +kernel)
theorem tb_569 : Cond.lays "MiddleOfCourt$Stroke" "MiddleOfCourt$Stroke" "number" "I" ∈ TBL := TBL_of 569 (by decide +kernel) (by decide +kernel)
theorem tb_570 : Cond.lays "MiddleOfCourt$Stroke" "MiddleOfCourt$Stroke" "aim" "I" ∈ TBL := TBL_of 570 (by decide +kernel) (by decide +kernel)
theorem tb_571 : Cond.superclass "MiddleOfCourt$Stroke" "java/lang/Object" ∈ TBL := TBL_of 571 (by decide +kernel) (by decide +kernel)
theorem tb_572 : Cond.methodLink "MiddleOfCourtLaw" 22 ⟨"MiddleOfCourt", "told", "(II)I"⟩ ∈ TBL := TBL_of 572 (by decide +kernel) (by decide +kernel)
theorem tb_573 : Cond.instanceMethod ⟨"MiddleOfCourt", "told", "(II)I"⟩ ∈ TBL := TBL_of 573 (by decide +kernel) (by decide +kernel)
theorem tb_574 : Cond.selects "MiddleOfCourt" ⟨"MiddleOfCourt", "told", "(II)I"⟩ ⟨"MiddleOfCourt", "told", "(II)I"⟩ ∈ TBL := TBL_of 574 (by decide +kernel) (by decide +kernel)
theorem tb_575 : Cond.code ⟨"MiddleOfCourt", "told", "(II)I"⟩ prog_1_method_4_code 4 (some .int) ∈ TBL := TBL_of 575 (by decide +kernel) (by decide +kernel)
theorem tb_576 : Cond.methodLink "MiddleOfCourt" 141 ⟨"MiddleOfCourt$Player", "value", "(I)I"⟩ ∈ TBL := TBL_of 576 (by decide +kernel) (by decide +kernel)
theorem tb_577 : Cond.methodLink "MiddleOfCourt" 145 ⟨"MiddleOfCourt$Stroke", "kind", "()I"⟩ ∈ TBL := TBL_of 577 (by decide +kernel) (by decide +kernel)
theorem tb_578 : Cond.instanceMethod ⟨"MiddleOfCourt$Stroke", "kind", "()I"⟩ ∈ TBL := TBL_of 578 (by decide +kernel) (by decide +kernel)
theorem tb_579 : Cond.selects "MiddleOfCourt$Stroke" ⟨"MiddleOfCourt$Stroke", "kind", "()I"⟩ ⟨"MiddleOfCourt$Stroke", "kind", "()I"⟩ ∈ TBL := TBL_of 579 (by decide +kernel) (by decide +kernel)
theorem tb_580 : Cond.sameMethod "MiddleOfCourt$Stroke" "MiddleOfCourt$Stroke" "kind" "()I" ∈ TBL := TBL_of 580 (by decide +kernel) (by decide +kernel)
theorem tb_581 : Cond.selects "MiddleOfCourt$Boast" ⟨"MiddleOfCourt$Stroke", "kind", "()I"⟩ ⟨"MiddleOfCourt$Boast", "kind", "()I"⟩ ∈ TBL := TBL_of 581 (by decide +kernel) (by decide +kernel)
theorem tb_582 : Cond.instanceMethod ⟨"MiddleOfCourt$Boast", "kind", "()I"⟩ ∈ TBL := TBL_of 582 (by decide +kernel) (by decide +kernel)
theorem tb_583 : Cond.code ⟨"MiddleOfCourt$Boast", "kind", "()I"⟩ prog_2_method_2_code 1 (some .int) ∈ TBL := TBL_of 583 (by decide +kernel) (by decide +kernel)
theorem tb_584 : Cond.selects "MiddleOfCourt$Cross" ⟨"MiddleOfCourt$Stroke", "kind", "()I"⟩ ⟨"MiddleOfCourt$Cross", "kind", "()I"⟩ ∈ TBL := TBL_of 584 (by decide +kernel) (by decide +kernel)
theorem tb_585 : Cond.instanceMethod ⟨"MiddleOfCourt$Cross", "kind", "()I"⟩ ∈ TBL := TBL_of 585 (by decide +kernel) (by decide +kernel)
theorem tb_586 : Cond.code ⟨"MiddleOfCourt$Cross", "kind", "()I"⟩ prog_4_method_2_code 1 (some .int) ∈ TBL := TBL_of 586 (by decide +kernel) (by decide +kernel)
theorem tb_587 : Cond.selects "MiddleOfCourt$Drop" ⟨"MiddleOfCourt$Stroke", "kind", "()I"⟩ ⟨"MiddleOfCourt$Drop", "kind", "()I"⟩ ∈ TBL := TBL_of 587 (by decide +kernel) (by decide +kernel)
theorem tb_588 : Cond.instanceMethod ⟨"MiddleOfCourt$Drop", "kind", "()I"⟩ ∈ TBL := TBL_of 588 (by decide +kernel) (by decide +kernel)
theorem tb_589 : Cond.code ⟨"MiddleOfCourt$Drop", "kind", "()I"⟩ prog_5_method_2_code 1 (some .int) ∈ TBL := TBL_of 589 (by decide +kernel) (by decide +kernel)
theorem tb_590 : Cond.selects "MiddleOfCourt$Length" ⟨"MiddleOfCourt$Stroke", "kind", "()I"⟩ ⟨"MiddleOfCourt$Length", "kind", "()I"⟩ ∈ TBL := TBL_of 590 (by decide +kernel) (by decide +kernel)
theorem tb_591 : Cond.instanceMethod ⟨"MiddleOfCourt$Length", "kind", "()I"⟩ ∈ TBL := TBL_of 591 (by decide +kernel) (by decide +kernel)
theorem tb_592 : Cond.code ⟨"MiddleOfCourt$Length", "kind", "()I"⟩ prog_6_method_2_code 1 (some .int) ∈ TBL := TBL_of 592 (by decide +kernel) (by decide +kernel)
theorem tb_593 : Cond.selects "MiddleOfCourt$Lob" ⟨"MiddleOfCourt$Stroke", "kind", "()I"⟩ ⟨"MiddleOfCourt$Lob", "kind", "()I"⟩ ∈ TBL := TBL_of 593 (by decide +kernel) (by decide +kernel)
theorem tb_594 : Cond.instanceMethod ⟨"MiddleOfCourt$Lob", "kind", "()I"⟩ ∈ TBL := TBL_of 594 (by decide +kernel) (by decide +kernel)
theorem tb_595 : Cond.code ⟨"MiddleOfCourt$Lob", "kind", "()I"⟩ prog_7_method_2_code 1 (some .int) ∈ TBL := TBL_of 595 (by decide +kernel) (by decide +kernel)
theorem tb_596 : Cond.code ⟨"MiddleOfCourt$Stroke", "kind", "()I"⟩ prog_10_method_2_code 1 (some .int) ∈ TBL := TBL_of 596 (by decide +kernel) (by decide +kernel)
theorem tb_597 : Cond.methodLink "MiddleOfCourt" 149 ⟨"MiddleOfCourt$Stroke", "value", "(I)I"⟩ ∈ TBL := TBL_of 597 (by decide +kernel) (by decide +kernel)
theorem tb_598 : Cond.methodLink "MiddleOfCourtLaw" 27 ⟨"MiddleOfCourt", "shot", "(III)I"⟩ ∈ TBL := TBL_of 598 (by decide +kernel) (by decide +kernel)
theorem tb_599 : Cond.instanceMethod ⟨"MiddleOfCourt", "shot", "(III)I"⟩ ∈ TBL := TBL_of 599 (by decide +kernel) (by decide +kernel)
theorem tb_600 : Cond.selects "MiddleOfCourt" ⟨"MiddleOfCourt", "shot", "(III)I"⟩ ⟨"MiddleOfCourt", "shot", "(III)I"⟩ ∈ TBL := TBL_of 600 (by decide +kernel) (by decide +kernel)
theorem tb_601 : Cond.code ⟨"MiddleOfCourt", "shot", "(III)I"⟩ prog_1_method_5_code 7 (some .int) ∈ TBL := TBL_of 601 (by decide +kernel) (by decide +kernel)
theorem tb_602 : Cond.methodLink "MiddleOfCourt" 153 ⟨"MiddleOfCourt$Stroke", "comes", "(I)I"⟩ ∈ TBL := TBL_of 602 (by decide +kernel) (by decide +kernel)
theorem tb_603 : Cond.instanceMethod ⟨"MiddleOfCourt$Stroke", "comes", "(I)I"⟩ ∈ TBL := TBL_of 603 (by decide +kernel) (by decide +kernel)
theorem tb_604 : Cond.selects "MiddleOfCourt$Stroke" ⟨"MiddleOfCourt$Stroke", "comes", "(I)I"⟩ ⟨"MiddleOfCourt$Stroke", "comes", "(I)I"⟩ ∈ TBL := TBL_of 604 (by decide +kernel) (by decide +kernel)
theorem tb_605 : Cond.sameMethod "MiddleOfCourt$Stroke" "MiddleOfCourt$Stroke" "comes" "(I)I" ∈ TBL := TBL_of 605 (by decide +kernel) (by decide +kernel)
theorem tb_606 : Cond.selects "MiddleOfCourt$Boast" ⟨"MiddleOfCourt$Stroke", "comes", "(I)I"⟩ ⟨"MiddleOfCourt$Boast", "comes", "(I)I"⟩ ∈ TBL := TBL_of 606 (by decide +kernel) (by decide +kernel)
theorem tb_607 : Cond.instanceMethod ⟨"MiddleOfCourt$Boast", "comes", "(I)I"⟩ ∈ TBL := TBL_of 607 (by decide +kernel) (by decide +kernel)
theorem tb_608 : Cond.code ⟨"MiddleOfCourt$Boast", "comes", "(I)I"⟩ prog_2_method_3_code 2 (some .int) ∈ TBL := TBL_of 608 (by decide +kernel) (by decide +kernel)
theorem tb_610 : Cond.static ⟨"MiddleOfCourt", "across", "(I)I"⟩ ∈ TBL := TBL_of 610 (by decide +kernel) (by decide +kernel)
theorem tb_611 : Cond.code ⟨"MiddleOfCourt", "across", "(I)I"⟩ prog_1_method_39_code 1 (some .int) ∈ TBL := TBL_of 611 (by decide +kernel) (by decide +kernel)
theorem tb_612 : Cond.selects "MiddleOfCourt$Cross" ⟨"MiddleOfCourt$Stroke", "comes", "(I)I"⟩ ⟨"MiddleOfCourt$Cross", "comes", "(I)I"⟩ ∈ TBL := TBL_of 612 (by decide +kernel) (by decide +kernel)
theorem tb_613 : Cond.instanceMethod ⟨"MiddleOfCourt$Cross", "comes", "(I)I"⟩ ∈ TBL := TBL_of 613 (by decide +kernel) (by decide +kernel)
theorem tb_614 : Cond.code ⟨"MiddleOfCourt$Cross", "comes", "(I)I"⟩ prog_4_method_3_code 3 (some .int) ∈ TBL := TBL_of 614 (by decide +kernel) (by decide +kernel)
theorem tb_615 : Cond.methodLink "MiddleOfCourt$Cross" 9 ⟨"MiddleOfCourt$Length", "comes", "(I)I"⟩ ∈ TBL := TBL_of 615 (by decide +kernel) (by decide +kernel)
theorem tb_616 : Cond.sameMethod "MiddleOfCourt$Length" "MiddleOfCourt$Stroke" "comes" "(I)I" ∈ TBL := TBL_of 616 (by decide +kernel) (by decide +kernel)
theorem tb_619 : Cond.selects "MiddleOfCourt$Drop" ⟨"MiddleOfCourt$Stroke", "comes", "(I)I"⟩ ⟨"MiddleOfCourt$Stroke", "comes", "(I)I"⟩ ∈ TBL := TBL_of 619 (by decide +kernel) (by decide +kernel)
theorem tb_620 : Cond.selects "MiddleOfCourt$Length" ⟨"MiddleOfCourt$Stroke", "comes", "(I)I"⟩ ⟨"MiddleOfCourt$Stroke", "comes", "(I)I"⟩ ∈ TBL := TBL_of 620 (by decide +kernel) (by decide +kernel)
theorem tb_621 : Cond.selects "MiddleOfCourt$Lob" ⟨"MiddleOfCourt$Stroke", "comes", "(I)I"⟩ ⟨"MiddleOfCourt$Lob", "comes", "(I)I"⟩ ∈ TBL := TBL_of 621 (by decide +kernel) (by decide +kernel)
theorem tb_622 : Cond.instanceMethod ⟨"MiddleOfCourt$Lob", "comes", "(I)I"⟩ ∈ TBL := TBL_of 622 (by decide +kernel) (by decide +kernel)
theorem tb_623 : Cond.code ⟨"MiddleOfCourt$Lob", "comes", "(I)I"⟩ prog_7_method_3_code 2 (some .int) ∈ TBL := TBL_of 623 (by decide +kernel) (by decide +kernel)
theorem tb_624 : Cond.code ⟨"MiddleOfCourt$Stroke", "comes", "(I)I"⟩ prog_10_method_3_code 2 (some .int) ∈ TBL := TBL_of 624 (by decide +kernel) (by decide +kernel)
theorem tb_625 : Cond.methodLink "MiddleOfCourt" 156 ⟨"MiddleOfCourt$Court", "tenthsOf", "(LMiddleOfCourt$Player;LMiddleOfCourt$Stroke;)I"⟩ ∈ TBL := TBL_of 625 (by decide +kernel) (by decide +kernel)
theorem tb_626 : Cond.instanceMethod ⟨"MiddleOfCourt$Court", "tenthsOf", "(LMiddleOfCourt$Player;LMiddleOfCourt$Stroke;)I"⟩ ∈ TBL := TBL_of 626 (by decide +kernel) (by decide +kernel)
theorem tb_627 : Cond.selects "MiddleOfCourt$Court" ⟨"MiddleOfCourt$Court", "tenthsOf", "(LMiddleOfCourt$Player;LMiddleOfCourt$Stroke;)I"⟩ ⟨"MiddleOfCourt$Court", "tenthsOf", "(LMiddleOfCourt$Player;LMiddleOfCourt$Stroke;)I"⟩ ∈ TBL := TBL_of 627 (by decide +kernel) (by decide +kernel)
theorem tb_628 : Cond.code ⟨"MiddleOfCourt$Court", "tenthsOf", "(LMiddleOfCourt$Player;LMiddleOfCourt$Stroke;)I"⟩ prog_3_method_5_code 6 (some .int) ∈ TBL := TBL_of 628 (by decide +kernel) (by decide +kernel)
theorem tb_629 : Cond.methodLink "MiddleOfCourt$Court" 49 ⟨"MiddleOfCourt$Stroke", "comes", "(I)I"⟩ ∈ TBL := TBL_of 629 (by decide +kernel) (by decide +kernel)
theorem tb_631 : Cond.static ⟨"MiddleOfCourt", "apart", "(II)I"⟩ ∈ TBL := TBL_of 631 (by decide +kernel) (by decide +kernel)
theorem tb_632 : Cond.code ⟨"MiddleOfCourt", "apart", "(II)I"⟩ prog_1_method_38_code 2 (some .int) ∈ TBL := TBL_of 632 (by decide +kernel) (by decide +kernel)
theorem tb_633 : Cond.methodLink "MiddleOfCourt" 305 ⟨"java/lang/Math", "abs", "(I)I"⟩ ∈ TBL := TBL_of 633 (by decide +kernel) (by decide +kernel)
theorem tb_634 : Cond.static ⟨"java/lang/Math", "abs", "(I)I"⟩ ∈ TBL := TBL_of 634 (by decide +kernel) (by decide +kernel)
theorem tb_635 : Cond.code ⟨"java/lang/Math", "abs", "(I)I"⟩ prog_16_method_59_code 1 (some .int) ∈ TBL := TBL_of 635 (by decide +kernel) (by decide +kernel)
theorem tb_636 : Cond.methodLink "MiddleOfCourt" 310 ⟨"java/lang/Math", "max", "(II)I"⟩ ∈ TBL := TBL_of 636 (by decide +kernel) (by decide +kernel)
theorem tb_637 : Cond.static ⟨"java/lang/Math", "max", "(II)I"⟩ ∈ TBL := TBL_of 637 (by decide +kernel) (by decide +kernel)
theorem tb_638 : Cond.code ⟨"java/lang/Math", "max", "(II)I"⟩ prog_16_method_65_code 2 (some .int) ∈ TBL := TBL_of 638 (by decide +kernel) (by decide +kernel)
theorem tb_639 : Cond.methodLink "MiddleOfCourt$Court" 39 ⟨"MiddleOfCourt$Text", "reckon", "(ILMiddleOfCourt$Player;IIII)I"⟩ ∈ TBL := TBL_of 639 (by decide +kernel) (by decide +kernel)
theorem tb_640 : Cond.instanceMethod ⟨"MiddleOfCourt$Text", "reckon", "(ILMiddleOfCourt$Player;IIII)I"⟩ ∈ TBL := TBL_of 640 (by decide +kernel) (by decide +kernel)
theorem tb_641 : Cond.selects "MiddleOfCourt$Text" ⟨"MiddleOfCourt$Text", "reckon", "(ILMiddleOfCourt$Player;IIII)I"⟩ ⟨"MiddleOfCourt$Text", "reckon", "(ILMiddleOfCourt$Player;IIII)I"⟩ ∈ TBL := TBL_of 641 (by decide +kernel) (by decide +kernel)
theorem tb_642 : Cond.code ⟨"MiddleOfCourt$Text", "reckon", "(ILMiddleOfCourt$Player;IIII)I"⟩ prog_12_method_5_code 9 (some .int) ∈ TBL := TBL_of 642 (by decide +kernel) (by decide +kernel)
theorem tb_643 : Cond.methodLink "MiddleOfCourt$Text" 39 ⟨"MiddleOfCourt$Text", "work", "(II)I"⟩ ∈ TBL := TBL_of 643 (by decide +kernel) (by decide +kernel)
theorem tb_645 : Cond.instanceMethod ⟨"MiddleOfCourt$Text", "work", "(II)I"⟩ ∈ TBL := TBL_of 645 (by decide +kernel) (by decide +kernel)
theorem tb_646 : Cond.code ⟨"MiddleOfCourt$Text", "work", "(II)I"⟩ prog_12_method_6_code 3 (some .int) ∈ TBL := TBL_of 646 (by decide +kernel) (by decide +kernel)
theorem tb_647 : Cond.methodLink "MiddleOfCourt$Text" 43 ⟨"MiddleOfCourt$Text", "join", "(III)I"⟩ ∈ TBL := TBL_of 647 (by decide +kernel) (by decide +kernel)
theorem tb_648 : Cond.static ⟨"MiddleOfCourt$Text", "join", "(III)I"⟩ ∈ TBL := TBL_of 648 (by decide +kernel) (by decide +kernel)
theorem tb_649 : Cond.code ⟨"MiddleOfCourt$Text", "join", "(III)I"⟩ prog_12_method_7_code 3 (some .int) ∈ TBL := TBL_of 649 (by decide +kernel) (by decide +kernel)
theorem tb_651 : Cond.static ⟨"MiddleOfCourt", "within", "(II)I"⟩ ∈ TBL := TBL_of 651 (by decide +kernel) (by decide +kernel)
theorem tb_652 : Cond.code ⟨"MiddleOfCourt", "within", "(II)I"⟩ prog_1_method_40_code 2 (some .int) ∈ TBL := TBL_of 652 (by decide +kernel) (by decide +kernel)
theorem tb_653 : Cond.methodLink "MiddleOfCourt" 313 ⟨"java/lang/Math", "min", "(II)I"⟩ ∈ TBL := TBL_of 653 (by decide +kernel) (by decide +kernel)
theorem tb_654 : Cond.static ⟨"java/lang/Math", "min", "(II)I"⟩ ∈ TBL := TBL_of 654 (by decide +kernel) (by decide +kernel)
theorem tb_655 : Cond.code ⟨"java/lang/Math", "min", "(II)I"⟩ prog_16_method_69_code 2 (some .int) ∈ TBL := TBL_of 655 (by decide +kernel) (by decide +kernel)
theorem tb_656 : Cond.methodLink "MiddleOfCourt$Court" 58 ⟨"MiddleOfCourt$Stroke", "flight", "(II)I"⟩ ∈ TBL := TBL_of 656 (by decide +kernel) (by decide +kernel)
theorem tb_657 : Cond.instanceMethod ⟨"MiddleOfCourt$Stroke", "flight", "(II)I"⟩ ∈ TBL := TBL_of 657 (by decide +kernel) (by decide +kernel)
theorem tb_658 : Cond.selects "MiddleOfCourt$Stroke" ⟨"MiddleOfCourt$Stroke", "flight", "(II)I"⟩ ⟨"MiddleOfCourt$Stroke", "flight", "(II)I"⟩ ∈ TBL := TBL_of 658 (by decide +kernel) (by decide +kernel)
theorem tb_659 : Cond.sameMethod "MiddleOfCourt$Stroke" "MiddleOfCourt$Stroke" "flight" "(II)I" ∈ TBL := TBL_of 659 (by decide +kernel) (by decide +kernel)
theorem tb_660 : Cond.selects "MiddleOfCourt$Boast" ⟨"MiddleOfCourt$Stroke", "flight", "(II)I"⟩ ⟨"MiddleOfCourt$Boast", "flight", "(II)I"⟩ ∈ TBL := TBL_of 660 (by decide +kernel) (by decide +kernel)
theorem tb_661 : Cond.instanceMethod ⟨"MiddleOfCourt$Boast", "flight", "(II)I"⟩ ∈ TBL := TBL_of 661 (by decide +kernel) (by decide +kernel)
theorem tb_662 : Cond.code ⟨"MiddleOfCourt$Boast", "flight", "(II)I"⟩ prog_2_method_4_code 3 (some .int) ∈ TBL := TBL_of 662 (by decide +kernel) (by decide +kernel)
theorem tb_663 : Cond.methodLink "MiddleOfCourt$Boast" 19 ⟨"MiddleOfCourt$Drop", "flight", "(II)I"⟩ ∈ TBL := TBL_of 663 (by decide +kernel) (by decide +kernel)
theorem tb_664 : Cond.instanceMethod ⟨"MiddleOfCourt$Drop", "flight", "(II)I"⟩ ∈ TBL := TBL_of 664 (by decide +kernel) (by decide +kernel)
theorem tb_665 : Cond.code ⟨"MiddleOfCourt$Drop", "flight", "(II)I"⟩ prog_5_method_3_code 4 (some .int) ∈ TBL := TBL_of 665 (by decide +kernel) (by decide +kernel)
theorem tb_666 : Cond.methodLink "MiddleOfCourt$Drop" 9 ⟨"MiddleOfCourt$Stroke", "flight", "(II)I"⟩ ∈ TBL := TBL_of 666 (by decide +kernel) (by decide +kernel)
theorem tb_667 : Cond.selects "MiddleOfCourt$Cross" ⟨"MiddleOfCourt$Stroke", "flight", "(II)I"⟩ ⟨"MiddleOfCourt$Cross", "flight", "(II)I"⟩ ∈ TBL := TBL_of 667 (by decide +kernel) (by decide +kernel)
theorem tb_668 : Cond.instanceMethod ⟨"MiddleOfCourt$Cross", "flight", "(II)I"⟩ ∈ TBL := TBL_of 668 (by decide +kernel) (by decide +kernel)
theorem tb_669 : Cond.code ⟨"MiddleOfCourt$Cross", "flight", "(II)I"⟩ prog_4_method_4_code 3 (some .int) ∈ TBL := TBL_of 669 (by decide +kernel) (by decide +kernel)
theorem tb_670 : Cond.methodLink "MiddleOfCourt$Cross" 16 ⟨"MiddleOfCourt$Length", "flight", "(II)I"⟩ ∈ TBL := TBL_of 670 (by decide +kernel) (by decide +kernel)
theorem tb_671 : Cond.instanceMethod ⟨"MiddleOfCourt$Length", "flight", "(II)I"⟩ ∈ TBL := TBL_of 671 (by decide +kernel) (by decide +kernel)
theorem tb_672 : Cond.code ⟨"MiddleOfCourt$Length", "flight", "(II)I"⟩ prog_6_method_3_code 3 (some .int) ∈ TBL := TBL_of 672 (by decide +kernel) (by decide +kernel)
theorem tb_673 : Cond.methodLink "MiddleOfCourt$Length" 9 ⟨"MiddleOfCourt$Stroke", "flight", "(II)I"⟩ ∈ TBL := TBL_of 673 (by decide +kernel) (by decide +kernel)
theorem tb_674 : Cond.selects "MiddleOfCourt$Drop" ⟨"MiddleOfCourt$Stroke", "flight", "(II)I"⟩ ⟨"MiddleOfCourt$Drop", "flight", "(II)I"⟩ ∈ TBL := TBL_of 674 (by decide +kernel) (by decide +kernel)
theorem tb_675 : Cond.selects "MiddleOfCourt$Length" ⟨"MiddleOfCourt$Stroke", "flight", "(II)I"⟩ ⟨"MiddleOfCourt$Length", "flight", "(II)I"⟩ ∈ TBL := TBL_of 675 (by decide +kernel) (by decide +kernel)
theorem tb_676 : Cond.selects "MiddleOfCourt$Lob" ⟨"MiddleOfCourt$Stroke", "flight", "(II)I"⟩ ⟨"MiddleOfCourt$Lob", "flight", "(II)I"⟩ ∈ TBL := TBL_of 676 (by decide +kernel) (by decide +kernel)
theorem tb_677 : Cond.instanceMethod ⟨"MiddleOfCourt$Lob", "flight", "(II)I"⟩ ∈ TBL := TBL_of 677 (by decide +kernel) (by decide +kernel)
theorem tb_678 : Cond.code ⟨"MiddleOfCourt$Lob", "flight", "(II)I"⟩ prog_7_method_4_code 3 (some .int) ∈ TBL := TBL_of 678 (by decide +kernel) (by decide +kernel)
theorem tb_679 : Cond.methodLink "MiddleOfCourt$Lob" 15 ⟨"MiddleOfCourt$Length", "flight", "(II)I"⟩ ∈ TBL := TBL_of 679 (by decide +kernel) (by decide +kernel)
theorem tb_680 : Cond.code ⟨"MiddleOfCourt$Stroke", "flight", "(II)I"⟩ prog_10_method_4_code 3 (some .int) ∈ TBL := TBL_of 680 (by decide +kernel) (by decide +kernel)
theorem tb_681 : Cond.methodLink "MiddleOfCourt$Court" 61 ⟨"java/lang/Math", "max", "(II)I"⟩ ∈ TBL := TBL_of 681 (by decide +kernel) (by decide +kernel)
theorem tb_682 : Cond.methodLink "MiddleOfCourt" 160 ⟨"MiddleOfCourt$Court", "slipsOf", "(LMiddleOfCourt$Player;LMiddleOfCourt$Stroke;)I"⟩ ∈ TBL := TBL_of 682 (by decide +kernel) (by decide +kernel)
theorem tb_683 : Cond.instanceMethod ⟨"MiddleOfCourt$Court", "slipsOf", "(LMiddleOfCourt$Player;LMiddleOfCourt$Stroke;)I"⟩ ∈ TBL := TBL_of 683 (by decide +kernel) (by decide +kernel)
theorem tb_684 : Cond.selects "MiddleOfCourt$Court" ⟨"MiddleOfCourt$Court", "slipsOf", "(LMiddleOfCourt$Player;LMiddleOfCourt$Stroke;)I"⟩ ⟨"MiddleOfCourt$Court", "slipsOf", "(LMiddleOfCourt$Player;LMiddleOfCourt$Stroke;)I"⟩ ∈ TBL := TBL_of 684 (by decide +kernel) (by decide +kernel)
theorem tb_685 : Cond.code ⟨"MiddleOfCourt$Court", "slipsOf", "(LMiddleOfCourt$Player;LMiddleOfCourt$Stroke;)I"⟩ prog_3_method_6_code 5 (some .int) ∈ TBL := TBL_of 685 (by decide +kernel) (by decide +kernel)
theorem tb_686 : Cond.methodLink "MiddleOfCourt" 163 ⟨"MiddleOfCourt$Stroke", "spends", "()I"⟩ ∈ TBL := TBL_of 686 (by decide +kernel) (by decide +kernel)
theorem tb_687 : Cond.instanceMethod ⟨"MiddleOfCourt$Stroke", "spends", "()I"⟩ ∈ TBL := TBL_of 687 (by decide +kernel) (by decide +kernel)
theorem tb_688 : Cond.selects "MiddleOfCourt$Stroke" ⟨"MiddleOfCourt$Stroke", "spends", "()I"⟩ ⟨"MiddleOfCourt$Stroke", "spends", "()I"⟩ ∈ TBL := TBL_of 688 (by decide +kernel) (by decide +kernel)
theorem tb_689 : Cond.sameMethod "MiddleOfCourt$Stroke" "MiddleOfCourt$Stroke" "spends" "()I" ∈ TBL := TBL_of 689 (by decide +kernel) (by decide +kernel)
theorem tb_690 : Cond.selects "MiddleOfCourt$Boast" ⟨"MiddleOfCourt$Stroke", "spends", "()I"⟩ ⟨"MiddleOfCourt$Drop", "spends", "()I"⟩ ∈ TBL := TBL_of 690 (by decide +kernel) (by decide +kernel)
theorem tb_691 : Cond.instanceMethod ⟨"MiddleOfCourt$Drop", "spends", "()I"⟩ ∈ TBL := TBL_of 691 (by decide +kernel) (by decide +kernel)
theorem tb_692 : Cond.code ⟨"MiddleOfCourt$Drop", "spends", "()I"⟩ prog_5_method_4_code 1 (some .int) ∈ TBL := TBL_of 692 (by decide +kernel) (by decide +kernel)
theorem tb_693 : Cond.methodLink "MiddleOfCourt$Drop" 13 ⟨"MiddleOfCourt$Stroke", "spends", "()I"⟩ ∈ TBL := TBL_of 693 (by decide +kernel) (by decide +kernel)
theorem tb_694 : Cond.selects "MiddleOfCourt$Cross" ⟨"MiddleOfCourt$Stroke", "spends", "()I"⟩ ⟨"MiddleOfCourt$Cross", "spends", "()I"⟩ ∈ TBL := TBL_of 694 (by decide +kernel) (by decide +kernel)
theorem tb_695 : Cond.instanceMethod ⟨"MiddleOfCourt$Cross", "spends", "()I"⟩ ∈ TBL := TBL_of 695 (by decide +kernel) (by decide +kernel)
theorem tb_696 : Cond.code ⟨"MiddleOfCourt$Cross", "spends", "()I"⟩ prog_4_method_5_code 1 (some .int) ∈ TBL := TBL_of 696 (by decide +kernel) (by decide +kernel)
theorem tb_697 : Cond.methodLink "MiddleOfCourt$Cross" 20 ⟨"MiddleOfCourt$Length", "spends", "()I"⟩ ∈ TBL := TBL_of 697 (by decide +kernel) (by decide +kernel)
theorem tb_698 : Cond.sameMethod "MiddleOfCourt$Length" "MiddleOfCourt$Stroke" "spends" "()I" ∈ TBL := TBL_of 698 (by decide +kernel) (by decide +kernel)
theorem tb_700 : Cond.selects "MiddleOfCourt$Drop" ⟨"MiddleOfCourt$Stroke", "spends", "()I"⟩ ⟨"MiddleOfCourt$Drop", "spends", "()I"⟩ ∈ TBL := TBL_of 700 (by decide +kernel) (by decide +kernel)
theorem tb_701 : Cond.selects "MiddleOfCourt$Length" ⟨"MiddleOfCourt$Stroke", "spends", "()I"⟩ ⟨"MiddleOfCourt$Stroke", "spends", "()I"⟩ ∈ TBL := TBL_of 701 (by decide +kernel) (by decide +kernel)
theorem tb_702 : Cond.selects "MiddleOfCourt$Lob" ⟨"MiddleOfCourt$Stroke", "spends", "()I"⟩ ⟨"MiddleOfCourt$Lob", "spends", "()I"⟩ ∈ TBL := TBL_of 702 (by decide +kernel) (by decide +kernel)
theorem tb_703 : Cond.instanceMethod ⟨"MiddleOfCourt$Lob", "spends", "()I"⟩ ∈ TBL := TBL_of 703 (by decide +kernel) (by decide +kernel)
theorem tb_704 : Cond.code ⟨"MiddleOfCourt$Lob", "spends", "()I"⟩ prog_7_method_5_code 1 (some .int) ∈ TBL := TBL_of 704 (by decide +kernel) (by decide +kernel)
theorem tb_705 : Cond.code ⟨"MiddleOfCourt$Stroke", "spends", "()I"⟩ prog_10_method_5_code 1 (some .int) ∈ TBL := TBL_of 705 (by decide +kernel) (by decide +kernel)
theorem tb_706 : Cond.methodLink "MiddleOfCourt" 166 ⟨"MiddleOfCourt$Court", "needsOf", "(LMiddleOfCourt$Player;II)I"⟩ ∈ TBL := TBL_of 706 (by decide +kernel) (by decide +kernel)
theorem tb_707 : Cond.instanceMethod ⟨"MiddleOfCourt$Court", "needsOf", "(LMiddleOfCourt$Player;II)I"⟩ ∈ TBL := TBL_of 707 (by decide +kernel) (by decide +kernel)
theorem tb_708 : Cond.selects "MiddleOfCourt$Court" ⟨"MiddleOfCourt$Court", "needsOf", "(LMiddleOfCourt$Player;II)I"⟩ ⟨"MiddleOfCourt$Court", "needsOf", "(LMiddleOfCourt$Player;II)I"⟩ ∈ TBL := TBL_of 708 (by decide +kernel) (by decide +kernel)
theorem tb_709 : Cond.code ⟨"MiddleOfCourt$Court", "needsOf", "(LMiddleOfCourt$Player;II)I"⟩ prog_3_method_4_code 5 (some .int) ∈ TBL := TBL_of 709 (by decide +kernel) (by decide +kernel)
theorem tb_710 : Cond.methodLink "MiddleOfCourtLaw" 31 ⟨"MiddleOfCourt", "needs", "(II)I"⟩ ∈ TBL := TBL_of 710 (by decide +kernel) (by decide +kernel)
theorem tb_711 : Cond.instanceMethod ⟨"MiddleOfCourt", "needs", "(II)I"⟩ ∈ TBL := TBL_of 711 (by decide +kernel) (by decide +kernel)
theorem tb_712 : Cond.selects "MiddleOfCourt" ⟨"MiddleOfCourt", "needs", "(II)I"⟩ ⟨"MiddleOfCourt", "needs", "(II)I"⟩ ∈ TBL := TBL_of 712 (by decide +kernel) (by decide +kernel)
theorem tb_713 : Cond.code ⟨"MiddleOfCourt", "needs", "(II)I"⟩ prog_1_method_6_code 5 (some .int) ∈ TBL := TBL_of 713 (by decide +kernel) (by decide +kernel)
theorem tb_714 : Cond.methodLink "MiddleOfCourtLaw" 35 ⟨"MiddleOfCourt", "feed", "(I)I"⟩ ∈ TBL := TBL_of 714 (by decide +kernel) (by decide +kernel)
theorem tb_715 : Cond.instanceMethod ⟨"MiddleOfCourt", "feed", "(I)I"⟩ ∈ TBL := TBL_of 715 (by decide +kernel) (by decide +kernel)
theorem tb_716 : Cond.selects "MiddleOfCourt" ⟨"MiddleOfCourt", "feed", "(I)I"⟩ ⟨"MiddleOfCourt", "feed", "(I)I"⟩ ∈ TBL := TBL_of 716 (by decide +kernel) (by decide +kernel)
theorem tb_717 : Cond.code ⟨"MiddleOfCourt", "feed", "(I)I"⟩ prog_1_method_7_code 2 (some .int) ∈ TBL := TBL_of 717 (by decide +kernel) (by decide +kernel)
theorem tb_718 : Cond.methodLink "MiddleOfCourt" 170 ⟨"MiddleOfCourt$Tape", "add", "(I)Z"⟩ ∈ TBL := TBL_of 718 (by decide +kernel) (by decide +kernel)
theorem tb_719 : Cond.methodLink "MiddleOfCourtLaw" 40 ⟨"MiddleOfCourt", "text", "()I"⟩ ∈ TBL := TBL_of 719 (by decide +kernel) (by decide +kernel)
theorem tb_720 : Cond.instanceMethod ⟨"MiddleOfCourt", "text", "()I"⟩ ∈ TBL := TBL_of 720 (by decide +kernel) (by decide +kernel)
theorem tb_721 : Cond.selects "MiddleOfCourt" ⟨"MiddleOfCourt", "text", "()I"⟩ ⟨"MiddleOfCourt", "text", "()I"⟩ ∈ TBL := TBL_of 721 (by decide +kernel) (by decide +kernel)
theorem tb_722 : Cond.code ⟨"MiddleOfCourt", "text", "()I"⟩ prog_1_method_8_code 2 (some .int) ∈ TBL := TBL_of 722 (by decide +kernel) (by decide +kernel)
theorem tb_723 : Cond.methodLink "MiddleOfCourtLaw" 45 ⟨"MiddleOfCourt", "force", "(I)I"⟩ ∈ TBL := TBL_of 723 (by decide +kernel) (by decide +kernel)
theorem tb_724 : Cond.instanceMethod ⟨"MiddleOfCourt", "force", "(I)I"⟩ ∈ TBL := TBL_of 724 (by decide +kernel) (by decide +kernel)
theorem tb_725 : Cond.selects "MiddleOfCourt" ⟨"MiddleOfCourt", "force", "(I)I"⟩ ⟨"MiddleOfCourt", "force", "(I)I"⟩ ∈ TBL := TBL_of 725 (by decide +kernel) (by decide +kernel)
theorem tb_726 : Cond.code ⟨"MiddleOfCourt", "force", "(I)I"⟩ prog_1_method_9_code 3 (some .int) ∈ TBL := TBL_of 726 (by decide +kernel) (by decide +kernel)
theorem tb_727 : Cond.methodLink "MiddleOfCourtLaw" 49 ⟨"MiddleOfCourt", "rally", "(II)I"⟩ ∈ TBL := TBL_of 727 (by decide +kernel) (by decide +kernel)
theorem tb_728 : Cond.instanceMethod ⟨"MiddleOfCourt", "rally", "(II)I"⟩ ∈ TBL := TBL_of 728 (by decide +kernel) (by decide +kernel)
theorem tb_729 : Cond.selects "MiddleOfCourt" ⟨"MiddleOfCourt", "rally", "(II)I"⟩ ⟨"MiddleOfCourt", "rally", "(II)I"⟩ ∈ TBL := TBL_of 729 (by decide +kernel) (by decide +kernel)
theorem tb_730 : Cond.code ⟨"MiddleOfCourt", "rally", "(II)I"⟩ prog_1_method_10_code 5 (some .int) ∈ TBL := TBL_of 730 (by decide +kernel) (by decide +kernel)
theorem tb_731 : Cond.methodLink "MiddleOfCourt" 180 ⟨"MiddleOfCourt", "refusalOfRally", "(I)I"⟩ ∈ TBL := TBL_of 731 (by decide +kernel) (by decide +kernel)
theorem tb_733 : Cond.instanceMethod ⟨"MiddleOfCourt", "refusalOfRally", "(I)I"⟩ ∈ TBL := TBL_of 733 (by decide +kernel) (by decide +kernel)
theorem tb_734 : Cond.code ⟨"MiddleOfCourt", "refusalOfRally", "(I)I"⟩ prog_1_method_42_code 4 (some .int) ∈ TBL := TBL_of 734 (by decide +kernel) (by decide +kernel)
theorem tb_735 : Cond.methodLink "MiddleOfCourt" 196 ⟨"MiddleOfCourt", "sheetAt", "(I)LMiddleOfCourt$Sheet;"⟩ ∈ TBL := TBL_of 735 (by decide +kernel) (by decide +kernel)
theorem tb_737 : Cond.instanceMethod ⟨"MiddleOfCourt", "sheetAt", "(I)LMiddleOfCourt$Sheet;"⟩ ∈ TBL := TBL_of 737 (by decide +kernel) (by decide +kernel)
theorem tb_738 : Cond.code ⟨"MiddleOfCourt", "sheetAt", "(I)LMiddleOfCourt$Sheet;"⟩ prog_1_method_34_code 2 (some (.object "MiddleOfCourt$Sheet")) ∈ TBL := TBL_of 738 (by decide +kernel) (by decide +kernel)
theorem tb_739 : Cond.methodLink "MiddleOfCourt" 221 ⟨"MiddleOfCourt$Sheet", "isMissing", "()Z"⟩ ∈ TBL := TBL_of 739 (by decide +kernel) (by decide +kernel)
theorem tb_740 : Cond.instanceMethod ⟨"MiddleOfCourt$Sheet", "isMissing", "()Z"⟩ ∈ TBL := TBL_of 740 (by decide +kernel) (by decide +kernel)
theorem tb_741 : Cond.selects "MiddleOfCourt$Sheet" ⟨"MiddleOfCourt$Sheet", "isMissing", "()Z"⟩ ⟨"MiddleOfCourt$Sheet", "isMissing", "()Z"⟩ ∈ TBL := TBL_of 741 (by decide +kernel) (by decide +kernel)
theorem tb_742 : Cond.code ⟨"MiddleOfCourt$Sheet", "isMissing", "()Z"⟩ prog_9_method_2_code 1 (some .boolean) ∈ TBL := TBL_of 742 (by decide +kernel) (by decide +kernel)
theorem tb_743 : Cond.methodLink "MiddleOfCourt" 277 ⟨"MiddleOfCourt$Sheet", "item", "(I)I"⟩ ∈ TBL := TBL_of 743 (by decide +kernel) (by decide +kernel)
theorem tb_744 : Cond.instanceMethod ⟨"MiddleOfCourt$Sheet", "item", "(I)I"⟩ ∈ TBL := TBL_of 744 (by decide +kernel) (by decide +kernel)
theorem tb_745 : Cond.selects "MiddleOfCourt$Sheet" ⟨"MiddleOfCourt$Sheet", "item", "(I)I"⟩ ⟨"MiddleOfCourt$Sheet", "item", "(I)I"⟩ ∈ TBL := TBL_of 745 (by decide +kernel) (by decide +kernel)
theorem tb_746 : Cond.code ⟨"MiddleOfCourt$Sheet", "item", "(I)I"⟩ prog_9_method_5_code 2 (some .int) ∈ TBL := TBL_of 746 (by decide +kernel) (by decide +kernel)
theorem tb_747 : Cond.methodLink "MiddleOfCourt" 183 ⟨"MiddleOfCourt", "playInThought", "(I)I"⟩ ∈ TBL := TBL_of 747 (by decide +kernel) (by decide +kernel)
theorem tb_749 : Cond.instanceMethod ⟨"MiddleOfCourt", "playInThought", "(I)I"⟩ ∈ TBL := TBL_of 749 (by decide +kernel) (by decide +kernel)
theorem tb_750 : Cond.code ⟨"MiddleOfCourt", "playInThought", "(I)I"⟩ prog_1_method_43_code 2 (some .int) ∈ TBL := TBL_of 750 (by decide +kernel) (by decide +kernel)
theorem tb_751 : Cond.methodLink "MiddleOfCourt" 245 ⟨"MiddleOfCourt$Court", "take", "(LMiddleOfCourt$Court;)V"⟩ ∈ TBL := TBL_of 751 (by decide +kernel) (by decide +kernel)
theorem tb_752 : Cond.instanceMethod ⟨"MiddleOfCourt$Court", "take", "(LMiddleOfCourt$Court;)V"⟩ ∈ TBL := TBL_of 752 (by decide +kernel) (by decide +kernel)
theorem tb_753 : Cond.selects "MiddleOfCourt$Court" ⟨"MiddleOfCourt$Court", "take", "(LMiddleOfCourt$Court;)V"⟩ ⟨"MiddleOfCourt$Court", "take", "(LMiddleOfCourt$Court;)V"⟩ ∈ TBL := TBL_of 753 (by decide +kernel) (by decide +kernel)
theorem tb_754 : Cond.code ⟨"MiddleOfCourt$Court", "take", "(LMiddleOfCourt$Court;)V"⟩ prog_3_method_2_code 2 none ∈ TBL := TBL_of 754 (by decide +kernel) (by decide +kernel)
theorem tb_755 : Cond.methodLink "MiddleOfCourt$Court" 29 ⟨"MiddleOfCourt$Player", "take", "(LMiddleOfCourt$Player;)V"⟩ ∈ TBL := TBL_of 755 (by decide +kernel) (by decide +kernel)
theorem tb_756 : Cond.instanceMethod ⟨"MiddleOfCourt$Player", "take", "(LMiddleOfCourt$Player;)V"⟩ ∈ TBL := TBL_of 756 (by decide +kernel) (by decide +kernel)
theorem tb_757 : Cond.selects "MiddleOfCourt$Player" ⟨"MiddleOfCourt$Player", "take", "(LMiddleOfCourt$Player;)V"⟩ ⟨"MiddleOfCourt$Player", "take", "(LMiddleOfCourt$Player;)V"⟩ ∈ TBL := TBL_of 757 (by decide +kernel) (by decide +kernel)
theorem tb_758 : Cond.code ⟨"MiddleOfCourt$Player", "take", "(LMiddleOfCourt$Player;)V"⟩ prog_8_method_2_code 2 none ∈ TBL := TBL_of 758 (by decide +kernel) (by decide +kernel)
theorem tb_759 : Cond.methodLink "MiddleOfCourt" 200 ⟨"MiddleOfCourt", "playOut", "(LMiddleOfCourt$Court;LMiddleOfCourt$Sheet;)I"⟩ ∈ TBL := TBL_of 759 (by decide +kernel) (by decide +kernel)
theorem tb_761 : Cond.instanceMethod ⟨"MiddleOfCourt", "playOut", "(LMiddleOfCourt$Court;LMiddleOfCourt$Sheet;)I"⟩ ∈ TBL := TBL_of 761 (by decide +kernel) (by decide +kernel)
theorem tb_762 : Cond.code ⟨"MiddleOfCourt", "playOut", "(LMiddleOfCourt$Court;LMiddleOfCourt$Sheet;)I"⟩ prog_1_method_44_code 9 (some .int) ∈ TBL := TBL_of 762 (by decide +kernel) (by decide +kernel)
theorem tb_763 : Cond.constantLong "MiddleOfCourt" 321 (100 : Int64) ∈ TBL := TBL_of 763 (by decide +kernel) (by decide +kernel)
theorem tb_764 : Cond.methodLink "MiddleOfCourt" 250 ⟨"MiddleOfCourt$Court", "strike", "(ILMiddleOfCourt$Stroke;)Z"⟩ ∈ TBL := TBL_of 764 (by decide +kernel) (by decide +kernel)
theorem tb_765 : Cond.instanceMethod ⟨"MiddleOfCourt$Court", "strike", "(ILMiddleOfCourt$Stroke;)Z"⟩ ∈ TBL := TBL_of 765 (by decide +kernel) (by decide +kernel)
theorem tb_766 : Cond.selects "MiddleOfCourt$Court" ⟨"MiddleOfCourt$Court", "strike", "(ILMiddleOfCourt$Stroke;)Z"⟩ ⟨"MiddleOfCourt$Court", "strike", "(ILMiddleOfCourt$Stroke;)Z"⟩ ∈ TBL := TBL_of 766 (by decide +kernel) (by decide +kernel)
theorem tb_767 : Cond.code ⟨"MiddleOfCourt$Court", "strike", "(ILMiddleOfCourt$Stroke;)Z"⟩ prog_3_method_8_code 7 (some .boolean) ∈ TBL := TBL_of 767 (by decide +kernel) (by decide +kernel)
theorem tb_768 : Cond.methodLink "MiddleOfCourt$Court" 66 ⟨"MiddleOfCourt$Court", "one", "(I)LMiddleOfCourt$Player;"⟩ ∈ TBL := TBL_of 768 (by decide +kernel) (by decide +kernel)
theorem tb_769 : Cond.methodLink "MiddleOfCourt$Court" 74 ⟨"MiddleOfCourt$Court", "tenthsOf", "(LMiddleOfCourt$Player;LMiddleOfCourt$Stroke;)I"⟩ ∈ TBL := TBL_of 769 (by decide +kernel) (by decide +kernel)
theorem tb_770 : Cond.methodLink "MiddleOfCourt$Court" 78 ⟨"MiddleOfCourt$Stroke", "spends", "()I"⟩ ∈ TBL := TBL_of 770 (by decide +kernel) (by decide +kernel)
theorem tb_771 : Cond.methodLink "MiddleOfCourt$Court" 82 ⟨"MiddleOfCourt$Player", "tire", "(I)V"⟩ ∈ TBL := TBL_of 771 (by decide +kernel) (by decide +kernel)
theorem tb_772 : Cond.instanceMethod ⟨"MiddleOfCourt$Player", "tire", "(I)V"⟩ ∈ TBL := TBL_of 772 (by decide +kernel) (by decide +kernel)
theorem tb_773 : Cond.selects "MiddleOfCourt$Player" ⟨"MiddleOfCourt$Player", "tire", "(I)V"⟩ ⟨"MiddleOfCourt$Player", "tire", "(I)V"⟩ ∈ TBL := TBL_of 773 (by decide +kernel) (by decide +kernel)
theorem tb_774 : Cond.code ⟨"MiddleOfCourt$Player", "tire", "(I)V"⟩ prog_8_method_3_code 2 none ∈ TBL := TBL_of 774 (by decide +kernel) (by decide +kernel)
theorem tb_775 : Cond.methodLink "MiddleOfCourt$Player" 24 ⟨"java/lang/Math", "max", "(II)I"⟩ ∈ TBL := TBL_of 775 (by decide +kernel) (by decide +kernel)
theorem tb_776 : Cond.methodLink "MiddleOfCourt$Court" 70 ⟨"MiddleOfCourt$Court", "needsOf", "(LMiddleOfCourt$Player;II)I"⟩ ∈ TBL := TBL_of 776 (by decide +kernel) (by decide +kernel)
theorem tb_777 : Cond.methodLink "MiddleOfCourt$Court" 86 ⟨"MiddleOfCourt$Player", "go", "(I)V"⟩ ∈ TBL := TBL_of 777 (by decide +kernel) (by decide +kernel)
theorem tb_778 : Cond.instanceMethod ⟨"MiddleOfCourt$Player", "go", "(I)V"⟩ ∈ TBL := TBL_of 778 (by decide +kernel) (by decide +kernel)
theorem tb_779 : Cond.selects "MiddleOfCourt$Player" ⟨"MiddleOfCourt$Player", "go", "(I)V"⟩ ⟨"MiddleOfCourt$Player", "go", "(I)V"⟩ ∈ TBL := TBL_of 779 (by decide +kernel) (by decide +kernel)
theorem tb_780 : Cond.code ⟨"MiddleOfCourt$Player", "go", "(I)V"⟩ prog_8_method_4_code 2 none ∈ TBL := TBL_of 780 (by decide +kernel) (by decide +kernel)
theorem tb_782 : Cond.methodLink "MiddleOfCourt$Player" 33 ⟨"MiddleOfCourt$Player", "tire", "(I)V"⟩ ∈ TBL := TBL_of 782 (by decide +kernel) (by decide +kernel)
theorem tb_783 : Cond.methodLink "MiddleOfCourt$Court" 92 ⟨"java/lang/Math", "min", "(II)I"⟩ ∈ TBL := TBL_of 783 (by decide +kernel) (by decide +kernel)
theorem tb_784 : Cond.methodLink "MiddleOfCourt" 323 ⟨"MiddleOfCourt", "goesOver", "(III)Z"⟩ ∈ TBL := TBL_of 784 (by decide +kernel) (by decide +kernel)
theorem tb_785 : Cond.static ⟨"MiddleOfCourt", "goesOver", "(III)Z"⟩ ∈ TBL := TBL_of 785 (by decide +kernel) (by decide +kernel)
theorem tb_786 : Cond.code ⟨"MiddleOfCourt", "goesOver", "(III)Z"⟩ prog_1_method_41_code 6 (some .boolean) ∈ TBL := TBL_of 786 (by decide +kernel) (by decide +kernel)
theorem tb_787 : Cond.methodLink "MiddleOfCourt" 214 ⟨"MiddleOfCourt", "apart", "(II)I"⟩ ∈ TBL := TBL_of 787 (by decide +kernel) (by decide +kernel)
theorem tb_788 : Cond.methodLink "MiddleOfCourt" 316 ⟨"java/lang/Integer", "compare", "(II)I"⟩ ∈ TBL := TBL_of 788 (by decide +kernel) (by decide +kernel)
theorem tb_789 : Cond.static ⟨"java/lang/Integer", "compare", "(II)I"⟩ ∈ TBL := TBL_of 789 (by decide +kernel) (by decide +kernel)
theorem tb_790 : Cond.code ⟨"java/lang/Integer", "compare", "(II)I"⟩ prog_15_method_40_code 2 (some .int) ∈ TBL := TBL_of 790 (by decide +kernel) (by decide +kernel)
theorem tb_791 : Cond.methodLink "MiddleOfCourtLaw" 53 ⟨"MiddleOfCourt", "play", "(I)I"⟩ ∈ TBL := TBL_of 791 (by decide +kernel) (by decide +kernel)
theorem tb_792 : Cond.instanceMethod ⟨"MiddleOfCourt", "play", "(I)I"⟩ ∈ TBL := TBL_of 792 (by decide +kernel) (by decide +kernel)
theorem tb_793 : Cond.selects "MiddleOfCourt" ⟨"MiddleOfCourt", "play", "(I)I"⟩ ⟨"MiddleOfCourt", "play", "(I)I"⟩ ∈ TBL := TBL_of 793 (by decide +kernel) (by decide +kernel)
theorem tb_794 : Cond.code ⟨"MiddleOfCourt", "play", "(I)I"⟩ prog_1_method_11_code 3 (some .int) ∈ TBL := TBL_of 794 (by decide +kernel) (by decide +kernel)
theorem tb_795 : Cond.methodLink "MiddleOfCourtLaw" 57 ⟨"MiddleOfCourt", "likely", "(I)J"⟩ ∈ TBL := TBL_of 795 (by decide +kernel) (by decide +kernel)
theorem tb_796 : Cond.instanceMethod ⟨"MiddleOfCourt", "likely", "(I)J"⟩ ∈ TBL := TBL_of 796 (by decide +kernel) (by decide +kernel)
theorem tb_797 : Cond.selects "MiddleOfCourt" ⟨"MiddleOfCourt", "likely", "(I)J"⟩ ⟨"MiddleOfCourt", "likely", "(I)J"⟩ ∈ TBL := TBL_of 797 (by decide +kernel) (by decide +kernel)
theorem tb_798 : Cond.code ⟨"MiddleOfCourt", "likely", "(I)J"⟩ prog_1_method_12_code 2 (some .long) ∈ TBL := TBL_of 798 (by decide +kernel) (by decide +kernel)
theorem tb_799 : Cond.constantLong "MiddleOfCourt" 204 (-4611686018427387904 : Int64) ∈ TBL := TBL_of 799 (by decide +kernel) (by decide +kernel)
theorem tb_800 : Cond.methodLink "MiddleOfCourtLaw" 62 ⟨"MiddleOfCourt", "best", "(III)I"⟩ ∈ TBL := TBL_of 800 (by decide +kernel) (by decide +kernel)
theorem tb_801 : Cond.instanceMethod ⟨"MiddleOfCourt", "best", "(III)I"⟩ ∈ TBL := TBL_of 801 (by decide +kernel) (by decide +kernel)
theorem tb_802 : Cond.selects "MiddleOfCourt" ⟨"MiddleOfCourt", "best", "(III)I"⟩ ⟨"MiddleOfCourt", "best", "(III)I"⟩ ∈ TBL := TBL_of 802 (by decide +kernel) (by decide +kernel)
theorem tb_803 : Cond.code ⟨"MiddleOfCourt", "best", "(III)I"⟩ prog_1_method_13_code 5 (some .int) ∈ TBL := TBL_of 803 (by decide +kernel) (by decide +kernel)
theorem tb_804 : Cond.methodLink "MiddleOfCourt" 206 ⟨"MiddleOfCourt", "valueFor", "(LMiddleOfCourt$Court;III)I"⟩ ∈ TBL := TBL_of 804 (by decide +kernel) (by decide +kernel)
theorem tb_806 : Cond.instanceMethod ⟨"MiddleOfCourt", "valueFor", "(LMiddleOfCourt$Court;III)I"⟩ ∈ TBL := TBL_of 806 (by decide +kernel) (by decide +kernel)
theorem tb_807 : Cond.code ⟨"MiddleOfCourt", "valueFor", "(LMiddleOfCourt$Court;III)I"⟩ prog_1_method_45_code 9 (some .int) ∈ TBL := TBL_of 807 (by decide +kernel) (by decide +kernel)
theorem tb_808 : Cond.methodLink "MiddleOfCourt" 327 ⟨"MiddleOfCourt", "valueBy", "(LMiddleOfCourt$Court;ILMiddleOfCourt$Stroke;II)I"⟩ ∈ TBL := TBL_of 808 (by decide +kernel) (by decide +kernel)
theorem tb_810 : Cond.instanceMethod ⟨"MiddleOfCourt", "valueBy", "(LMiddleOfCourt$Court;ILMiddleOfCourt$Stroke;II)I"⟩ ∈ TBL := TBL_of 810 (by decide +kernel) (by decide +kernel)
theorem tb_811 : Cond.code ⟨"MiddleOfCourt", "valueBy", "(LMiddleOfCourt$Court;ILMiddleOfCourt$Stroke;II)I"⟩ prog_1_method_46_code 7 (some .int) ∈ TBL := TBL_of 811 (by decide +kernel) (by decide +kernel)
theorem tb_812 : Cond.methodLink "MiddleOfCourt" 217 ⟨"MiddleOfCourt$Court", "wouldWin", "(ILMiddleOfCourt$Stroke;)Z"⟩ ∈ TBL := TBL_of 812 (by decide +kernel) (by decide +kernel)
theorem tb_813 : Cond.instanceMethod ⟨"MiddleOfCourt$Court", "wouldWin", "(ILMiddleOfCourt$Stroke;)Z"⟩ ∈ TBL := TBL_of 813 (by decide +kernel) (by decide +kernel)
theorem tb_814 : Cond.selects "MiddleOfCourt$Court" ⟨"MiddleOfCourt$Court", "wouldWin", "(ILMiddleOfCourt$Stroke;)Z"⟩ ⟨"MiddleOfCourt$Court", "wouldWin", "(ILMiddleOfCourt$Stroke;)Z"⟩ ∈ TBL := TBL_of 814 (by decide +kernel) (by decide +kernel)
theorem tb_815 : Cond.code ⟨"MiddleOfCourt$Court", "wouldWin", "(ILMiddleOfCourt$Stroke;)Z"⟩ prog_3_method_7_code 6 (some .boolean) ∈ TBL := TBL_of 815 (by decide +kernel) (by decide +kernel)
theorem tb_816 : Cond.methodLink "MiddleOfCourtLaw" 66 ⟨"MiddleOfCourt", "sure", "(I)I"⟩ ∈ TBL := TBL_of 816 (by decide +kernel) (by decide +kernel)
theorem tb_817 : Cond.instanceMethod ⟨"MiddleOfCourt", "sure", "(I)I"⟩ ∈ TBL := TBL_of 817 (by decide +kernel) (by decide +kernel)
theorem tb_818 : Cond.selects "MiddleOfCourt" ⟨"MiddleOfCourt", "sure", "(I)I"⟩ ⟨"MiddleOfCourt", "sure", "(I)I"⟩ ∈ TBL := TBL_of 818 (by decide +kernel) (by decide +kernel)
theorem tb_819 : Cond.code ⟨"MiddleOfCourt", "sure", "(I)I"⟩ prog_1_method_14_code 3 (some .int) ∈ TBL := TBL_of 819 (by decide +kernel) (by decide +kernel)
theorem tb_820 : Cond.methodLink "MiddleOfCourtLaw" 70 ⟨"MiddleOfCourt", "stand", "(II)I"⟩ ∈ TBL := TBL_of 820 (by decide +kernel) (by decide +kernel)
theorem tb_821 : Cond.instanceMethod ⟨"MiddleOfCourt", "stand", "(II)I"⟩ ∈ TBL := TBL_of 821 (by decide +kernel) (by decide +kernel)
theorem tb_822 : Cond.selects "MiddleOfCourt" ⟨"MiddleOfCourt", "stand", "(II)I"⟩ ⟨"MiddleOfCourt", "stand", "(II)I"⟩ ∈ TBL := TBL_of 822 (by decide +kernel) (by decide +kernel)
theorem tb_823 : Cond.code ⟨"MiddleOfCourt", "stand", "(II)I"⟩ prog_1_method_15_code 7 (some .int) ∈ TBL := TBL_of 823 (by decide +kernel) (by decide +kernel)
theorem tb_824 : Cond.constant "MiddleOfCourt" 210 (-100000 : Int32) ∈ TBL := TBL_of 824 (by decide +kernel) (by decide +kernel)
theorem tb_825 : Cond.methodLink "MiddleOfCourt" 211 ⟨"MiddleOfCourt", "badness", "(II)I"⟩ ∈ TBL := TBL_of 825 (by decide +kernel) (by decide +kernel)
theorem tb_827 : Cond.instanceMethod ⟨"MiddleOfCourt", "badness", "(II)I"⟩ ∈ TBL := TBL_of 827 (by decide +kernel) (by decide +kernel)
theorem tb_828 : Cond.code ⟨"MiddleOfCourt", "badness", "(II)I"⟩ prog_1_method_47_code 10 (some .int) ∈ TBL := TBL_of 828 (by decide +kernel) (by decide +kernel)
theorem tb_829 : Cond.methodLink "MiddleOfCourtLaw" 74 ⟨"MiddleOfCourt", "tires", "(I)I"⟩ ∈ TBL := TBL_of 829 (by decide +kernel) (by decide +kernel)
theorem tb_830 : Cond.instanceMethod ⟨"MiddleOfCourt", "tires", "(I)I"⟩ ∈ TBL := TBL_of 830 (by decide +kernel) (by decide +kernel)
theorem tb_831 : Cond.selects "MiddleOfCourt" ⟨"MiddleOfCourt", "tires", "(I)I"⟩ ⟨"MiddleOfCourt", "tires", "(I)I"⟩ ∈ TBL := TBL_of 831 (by decide +kernel) (by decide +kernel)
theorem tb_832 : Cond.code ⟨"MiddleOfCourt", "tires", "(I)I"⟩ prog_1_method_16_code 9 (some .int) ∈ TBL := TBL_of 832 (by decide +kernel) (by decide +kernel)
theorem tb_833 : Cond.methodLink "MiddleOfCourtLaw" 78 ⟨"MiddleOfCourt", "inTheWay", "(I)I"⟩ ∈ TBL := TBL_of 833 (by decide +kernel) (by decide +kernel)
theorem tb_834 : Cond.instanceMethod ⟨"MiddleOfCourt", "inTheWay", "(I)I"⟩ ∈ TBL := TBL_of 834 (by decide +kernel) (by decide +kernel)
theorem tb_835 : Cond.selects "MiddleOfCourt" ⟨"MiddleOfCourt", "inTheWay", "(I)I"⟩ ⟨"MiddleOfCourt", "inTheWay", "(I)I"⟩ ∈ TBL := TBL_of 835 (by decide +kernel) (by decide +kernel)
theorem tb_836 : Cond.code ⟨"MiddleOfCourt", "inTheWay", "(I)I"⟩ prog_1_method_17_code 3 (some .int) ∈ TBL := TBL_of 836 (by decide +kernel) (by decide +kernel)
theorem tb_837 : Cond.methodLink "MiddleOfCourtLaw" 82 ⟨"MiddleOfCourt", "balls", "(II)I"⟩ ∈ TBL := TBL_of 837 (by decide +kernel) (by decide +kernel)
theorem tb_838 : Cond.instanceMethod ⟨"MiddleOfCourt", "balls", "(II)I"⟩ ∈ TBL := TBL_of 838 (by decide +kernel) (by decide +kernel)
theorem tb_839 : Cond.selects "MiddleOfCourt" ⟨"MiddleOfCourt", "balls", "(II)I"⟩ ⟨"MiddleOfCourt", "balls", "(II)I"⟩ ∈ TBL := TBL_of 839 (by decide +kernel) (by decide +kernel)
theorem tb_840 : Cond.code ⟨"MiddleOfCourt", "balls", "(II)I"⟩ prog_1_method_18_code 5 (some .int) ∈ TBL := TBL_of 840 (by decide +kernel) (by decide +kernel)
theorem tb_841 : Cond.methodLink "MiddleOfCourt" 226 ⟨"MiddleOfCourt", "rowsBy", "(LMiddleOfCourt$Court;LMiddleOfCourt$Sheet;II)I"⟩ ∈ TBL := TBL_of 841 (by decide +kernel) (by decide +kernel)
theorem tb_843 : Cond.instanceMethod ⟨"MiddleOfCourt", "rowsBy", "(LMiddleOfCourt$Court;LMiddleOfCourt$Sheet;II)I"⟩ ∈ TBL := TBL_of 843 (by decide +kernel) (by decide +kernel)
theorem tb_844 : Cond.code ⟨"MiddleOfCourt", "rowsBy", "(LMiddleOfCourt$Court;LMiddleOfCourt$Sheet;II)I"⟩ prog_1_method_48_code 11 (some .int) ∈ TBL := TBL_of 844 (by decide +kernel) (by decide +kernel)
theorem tb_845 : Cond.methodLink "MiddleOfCourtLaw" 86 ⟨"MiddleOfCourt", "quicks", "(III)I"⟩ ∈ TBL := TBL_of 845 (by decide +kernel) (by decide +kernel)
theorem tb_846 : Cond.instanceMethod ⟨"MiddleOfCourt", "quicks", "(III)I"⟩ ∈ TBL := TBL_of 846 (by decide +kernel) (by decide +kernel)
theorem tb_847 : Cond.selects "MiddleOfCourt" ⟨"MiddleOfCourt", "quicks", "(III)I"⟩ ⟨"MiddleOfCourt", "quicks", "(III)I"⟩ ∈ TBL := TBL_of 847 (by decide +kernel) (by decide +kernel)
theorem tb_848 : Cond.code ⟨"MiddleOfCourt", "quicks", "(III)I"⟩ prog_1_method_19_code 6 (some .int) ∈ TBL := TBL_of 848 (by decide +kernel) (by decide +kernel)
theorem tb_849 : Cond.methodLink "MiddleOfCourt" 230 ⟨"MiddleOfCourt", "rulesBy", "(LMiddleOfCourt$Sheet;I)I"⟩ ∈ TBL := TBL_of 849 (by decide +kernel) (by decide +kernel)
theorem tb_851 : Cond.instanceMethod ⟨"MiddleOfCourt", "rulesBy", "(LMiddleOfCourt$Sheet;I)I"⟩ ∈ TBL := TBL_of 851 (by decide +kernel) (by decide +kernel)
theorem tb_852 : Cond.code ⟨"MiddleOfCourt", "rulesBy", "(LMiddleOfCourt$Sheet;I)I"⟩ prog_1_method_50_code 5 (some .int) ∈ TBL := TBL_of 852 (by decide +kernel) (by decide +kernel)
theorem tb_853 : Cond.methodLink "MiddleOfCourt" 234 ⟨"MiddleOfCourt", "quicksBy", "(LMiddleOfCourt$Sheet;II)I"⟩ ∈ TBL := TBL_of 853 (by decide +kernel) (by decide +kernel)
theorem tb_855 : Cond.instanceMethod ⟨"MiddleOfCourt", "quicksBy", "(LMiddleOfCourt$Sheet;II)I"⟩ ∈ TBL := TBL_of 855 (by decide +kernel) (by decide +kernel)
theorem tb_856 : Cond.code ⟨"MiddleOfCourt", "quicksBy", "(LMiddleOfCourt$Sheet;II)I"⟩ prog_1_method_49_code 6 (some .int) ∈ TBL := TBL_of 856 (by decide +kernel) (by decide +kernel)
theorem tb_857 : Cond.methodLink "MiddleOfCourtLaw" 90 ⟨"MiddleOfCourt", "film", "(II)I"⟩ ∈ TBL := TBL_of 857 (by decide +kernel) (by decide +kernel)
theorem tb_858 : Cond.instanceMethod ⟨"MiddleOfCourt", "film", "(II)I"⟩ ∈ TBL := TBL_of 858 (by decide +kernel) (by decide +kernel)
theorem tb_859 : Cond.selects "MiddleOfCourt" ⟨"MiddleOfCourt", "film", "(II)I"⟩ ⟨"MiddleOfCourt", "film", "(II)I"⟩ ∈ TBL := TBL_of 859 (by decide +kernel) (by decide +kernel)
theorem tb_860 : Cond.code ⟨"MiddleOfCourt", "film", "(II)I"⟩ prog_1_method_20_code 6 (some .int) ∈ TBL := TBL_of 860 (by decide +kernel) (by decide +kernel)
theorem tb_861 : Cond.methodLink "MiddleOfCourt" 238 ⟨"MiddleOfCourt$Sheet", "become", "(II)V"⟩ ∈ TBL := TBL_of 861 (by decide +kernel) (by decide +kernel)
theorem tb_862 : Cond.instanceMethod ⟨"MiddleOfCourt$Sheet", "become", "(II)V"⟩ ∈ TBL := TBL_of 862 (by decide +kernel) (by decide +kernel)
theorem tb_863 : Cond.selects "MiddleOfCourt$Sheet" ⟨"MiddleOfCourt$Sheet", "become", "(II)V"⟩ ⟨"MiddleOfCourt$Sheet", "become", "(II)V"⟩ ∈ TBL := TBL_of 863 (by decide +kernel) (by decide +kernel)
theorem tb_864 : Cond.code ⟨"MiddleOfCourt$Sheet", "become", "(II)V"⟩ prog_9_method_4_code 4 none ∈ TBL := TBL_of 864 (by decide +kernel) (by decide +kernel)
theorem tb_866 : Cond.methodLink "MiddleOfCourt" 242 ⟨"MiddleOfCourt$Sheet", "put", "(II)V"⟩ ∈ TBL := TBL_of 866 (by decide +kernel) (by decide +kernel)
theorem tb_867 : Cond.instanceMethod ⟨"MiddleOfCourt$Sheet", "put", "(II)V"⟩ ∈ TBL := TBL_of 867 (by decide +kernel) (by decide +kernel)
theorem tb_868 : Cond.selects "MiddleOfCourt$Sheet" ⟨"MiddleOfCourt$Sheet", "put", "(II)V"⟩ ⟨"MiddleOfCourt$Sheet", "put", "(II)V"⟩ ∈ TBL := TBL_of 868 (by decide +kernel) (by decide +kernel)
theorem tb_869 : Cond.code ⟨"MiddleOfCourt$Sheet", "put", "(II)V"⟩ prog_9_method_6_code 3 none ∈ TBL := TBL_of 869 (by decide +kernel) (by decide +kernel)
theorem tb_870 : Cond.methodLink "MiddleOfCourtLaw" 94 ⟨"MiddleOfCourt", "drawn", "(I)I"⟩ ∈ TBL := TBL_of 870 (by decide +kernel) (by decide +kernel)
theorem tb_871 : Cond.instanceMethod ⟨"MiddleOfCourt", "drawn", "(I)I"⟩ ∈ TBL := TBL_of 871 (by decide +kernel) (by decide +kernel)
theorem tb_872 : Cond.selects "MiddleOfCourt" ⟨"MiddleOfCourt", "drawn", "(I)I"⟩ ⟨"MiddleOfCourt", "drawn", "(I)I"⟩ ∈ TBL := TBL_of 872 (by decide +kernel) (by decide +kernel)
theorem tb_873 : Cond.code ⟨"MiddleOfCourt", "drawn", "(I)I"⟩ prog_1_method_21_code 6 (some .int) ∈ TBL := TBL_of 873 (by decide +kernel) (by decide +kernel)
theorem tb_874 : Cond.constant "MiddleOfCourt" 249 (1103515245 : Int32) ∈ TBL := TBL_of 874 (by decide +kernel) (by decide +kernel)
theorem tb_875 : Cond.methodLink "MiddleOfCourtLaw" 98 ⟨"MiddleOfCourt", "chance", "(III)J"⟩ ∈ TBL := TBL_of 875 (by decide +kernel) (by decide +kernel)
theorem tb_876 : Cond.instanceMethod ⟨"MiddleOfCourt", "chance", "(III)J"⟩ ∈ TBL := TBL_of 876 (by decide +kernel) (by decide +kernel)
theorem tb_877 : Cond.selects "MiddleOfCourt" ⟨"MiddleOfCourt", "chance", "(III)J"⟩ ⟨"MiddleOfCourt", "chance", "(III)J"⟩ ∈ TBL := TBL_of 877 (by decide +kernel) (by decide +kernel)
theorem tb_878 : Cond.code ⟨"MiddleOfCourt", "chance", "(III)J"⟩ prog_1_method_22_code 6 (some .long) ∈ TBL := TBL_of 878 (by decide +kernel) (by decide +kernel)
theorem tb_879 : Cond.methodLink "MiddleOfCourt" 253 ⟨"MiddleOfCourt", "drawn", "(I)I"⟩ ∈ TBL := TBL_of 879 (by decide +kernel) (by decide +kernel)
theorem tb_880 : Cond.methodLink "MiddleOfCourtLaw" 103 ⟨"MiddleOfCourt", "image", "()I"⟩ ∈ TBL := TBL_of 880 (by decide +kernel) (by decide +kernel)
theorem tb_881 : Cond.instanceMethod ⟨"MiddleOfCourt", "image", "()I"⟩ ∈ TBL := TBL_of 881 (by decide +kernel) (by decide +kernel)
theorem tb_882 : Cond.selects "MiddleOfCourt" ⟨"MiddleOfCourt", "image", "()I"⟩ ⟨"MiddleOfCourt", "image", "()I"⟩ ∈ TBL := TBL_of 882 (by decide +kernel) (by decide +kernel)
theorem tb_883 : Cond.code ⟨"MiddleOfCourt", "image", "()I"⟩ prog_1_method_23_code 3 (some .int) ∈ TBL := TBL_of 883 (by decide +kernel) (by decide +kernel)
theorem tb_884 : Cond.methodLink "MiddleOfCourtLaw" 107 ⟨"MiddleOfCourt", "back", "()I"⟩ ∈ TBL := TBL_of 884 (by decide +kernel) (by decide +kernel)
theorem tb_885 : Cond.instanceMethod ⟨"MiddleOfCourt", "back", "()I"⟩ ∈ TBL := TBL_of 885 (by decide +kernel) (by decide +kernel)
theorem tb_886 : Cond.selects "MiddleOfCourt" ⟨"MiddleOfCourt", "back", "()I"⟩ ⟨"MiddleOfCourt", "back", "()I"⟩ ∈ TBL := TBL_of 886 (by decide +kernel) (by decide +kernel)
theorem tb_887 : Cond.code ⟨"MiddleOfCourt", "back", "()I"⟩ prog_1_method_24_code 3 (some .int) ∈ TBL := TBL_of 887 (by decide +kernel) (by decide +kernel)
theorem tb_888 : Cond.methodLink "MiddleOfCourtLaw" 111 ⟨"MiddleOfCourt", "count", "(I)I"⟩ ∈ TBL := TBL_of 888 (by decide +kernel) (by decide +kernel)
theorem tb_889 : Cond.instanceMethod ⟨"MiddleOfCourt", "count", "(I)I"⟩ ∈ TBL := TBL_of 889 (by decide +kernel) (by decide +kernel)
theorem tb_890 : Cond.selects "MiddleOfCourt" ⟨"MiddleOfCourt", "count", "(I)I"⟩ ⟨"MiddleOfCourt", "count", "(I)I"⟩ ∈ TBL := TBL_of 890 (by decide +kernel) (by decide +kernel)
theorem tb_891 : Cond.code ⟨"MiddleOfCourt", "count", "(I)I"⟩ prog_1_method_25_code 2 (some .int) ∈ TBL := TBL_of 891 (by decide +kernel) (by decide +kernel)
theorem tb_892 : Cond.methodLink "MiddleOfCourtLaw" 115 ⟨"MiddleOfCourt", "sheet", "(III)I"⟩ ∈ TBL := TBL_of 892 (by decide +kernel) (by decide +kernel)
theorem tb_893 : Cond.instanceMethod ⟨"MiddleOfCourt", "sheet", "(III)I"⟩ ∈ TBL := TBL_of 893 (by decide +kernel) (by decide +kernel)
theorem tb_894 : Cond.selects "MiddleOfCourt" ⟨"MiddleOfCourt", "sheet", "(III)I"⟩ ⟨"MiddleOfCourt", "sheet", "(III)I"⟩ ∈ TBL := TBL_of 894 (by decide +kernel) (by decide +kernel)
theorem tb_895 : Cond.code ⟨"MiddleOfCourt", "sheet", "(III)I"⟩ prog_1_method_26_code 5 (some .int) ∈ TBL := TBL_of 895 (by decide +kernel) (by decide +kernel)
theorem tb_896 : Cond.methodLink "MiddleOfCourtLaw" 119 ⟨"MiddleOfCourt", "cell", "(III)I"⟩ ∈ TBL := TBL_of 896 (by decide +kernel) (by decide +kernel)
theorem tb_897 : Cond.instanceMethod ⟨"MiddleOfCourt", "cell", "(III)I"⟩ ∈ TBL := TBL_of 897 (by decide +kernel) (by decide +kernel)
theorem tb_898 : Cond.selects "MiddleOfCourt" ⟨"MiddleOfCourt", "cell", "(III)I"⟩ ⟨"MiddleOfCourt", "cell", "(III)I"⟩ ∈ TBL := TBL_of 898 (by decide +kernel) (by decide +kernel)
theorem tb_899 : Cond.code ⟨"MiddleOfCourt", "cell", "(III)I"⟩ prog_1_method_27_code 5 (some .int) ∈ TBL := TBL_of 899 (by decide +kernel) (by decide +kernel)
theorem tb_900 : Cond.methodLink "MiddleOfCourt" 262 ⟨"MiddleOfCourt$Sheet", "holds", "(II)Z"⟩ ∈ TBL := TBL_of 900 (by decide +kernel) (by decide +kernel)
theorem tb_901 : Cond.instanceMethod ⟨"MiddleOfCourt$Sheet", "holds", "(II)Z"⟩ ∈ TBL := TBL_of 901 (by decide +kernel) (by decide +kernel)
theorem tb_902 : Cond.selects "MiddleOfCourt$Sheet" ⟨"MiddleOfCourt$Sheet", "holds", "(II)Z"⟩ ⟨"MiddleOfCourt$Sheet", "holds", "(II)Z"⟩ ∈ TBL := TBL_of 902 (by decide +kernel) (by decide +kernel)
theorem tb_903 : Cond.code ⟨"MiddleOfCourt$Sheet", "holds", "(II)Z"⟩ prog_9_method_3_code 3 (some .boolean) ∈ TBL := TBL_of 903 (by decide +kernel) (by decide +kernel)
theorem tb_904 : Cond.methodLink "MiddleOfCourtLaw" 123 ⟨"MiddleOfCourt", "copy", "(IIIII)I"⟩ ∈ TBL := TBL_of 904 (by decide +kernel) (by decide +kernel)
theorem tb_905 : Cond.instanceMethod ⟨"MiddleOfCourt", "copy", "(IIIII)I"⟩ ∈ TBL := TBL_of 905 (by decide +kernel) (by decide +kernel)
theorem tb_906 : Cond.selects "MiddleOfCourt" ⟨"MiddleOfCourt", "copy", "(IIIII)I"⟩ ⟨"MiddleOfCourt", "copy", "(IIIII)I"⟩ ∈ TBL := TBL_of 906 (by decide +kernel) (by decide +kernel)
theorem tb_907 : Cond.code ⟨"MiddleOfCourt", "copy", "(IIIII)I"⟩ prog_1_method_28_code 8 (some .int) ∈ TBL := TBL_of 907 (by decide +kernel) (by decide +kernel)
theorem tb_908 : Cond.methodLink "MiddleOfCourt" 271 ⟨"java/lang/System", "arraycopy", "(Ljava/lang/Object;ILjava/lang/Object;II)V"⟩ ∈ TBL := TBL_of 908 (by decide +kernel) (by decide +kernel)
theorem tb_909 : Cond.static ⟨"java/lang/System", "arraycopy", "(Ljava/lang/Object;ILjava/lang/Object;II)V"⟩ ∈ TBL := TBL_of 909 (by decide +kernel) (by decide +kernel)
theorem tb_910 : Cond.native ⟨"java/lang/System", "arraycopy", "(Ljava/lang/Object;ILjava/lang/Object;II)V"⟩ ∈ TBL := TBL_of 910 (by decide +kernel) (by decide +kernel)
theorem tb_911 : Cond.methodLink "MiddleOfCourtLaw" 128 ⟨"MiddleOfCourt", "strokes", "(IIII)I"⟩ ∈ TBL := TBL_of 911 (by decide +kernel) (by decide +kernel)
theorem tb_912 : Cond.instanceMethod ⟨"MiddleOfCourt", "strokes", "(IIII)I"⟩ ∈ TBL := TBL_of 912 (by decide +kernel) (by decide +kernel)
theorem tb_913 : Cond.selects "MiddleOfCourt" ⟨"MiddleOfCourt", "strokes", "(IIII)I"⟩ ⟨"MiddleOfCourt", "strokes", "(IIII)I"⟩ ∈ TBL := TBL_of 913 (by decide +kernel) (by decide +kernel)
theorem tb_914 : Cond.code ⟨"MiddleOfCourt", "strokes", "(IIII)I"⟩ prog_1_method_29_code 9 (some .int) ∈ TBL := TBL_of 914 (by decide +kernel) (by decide +kernel)
theorem tb_915 : Cond.methodLink "MiddleOfCourt" 280 ⟨"MiddleOfCourt", "stroke", "(III)I"⟩ ∈ TBL := TBL_of 915 (by decide +kernel) (by decide +kernel)
theorem tb_916 : Cond.methodLink "MiddleOfCourtLaw" 133 ⟨"MiddleOfCourt", "taken", "(II)I"⟩ ∈ TBL := TBL_of 916 (by decide +kernel) (by decide +kernel)
theorem tb_917 : Cond.instanceMethod ⟨"MiddleOfCourt", "taken", "(II)I"⟩ ∈ TBL := TBL_of 917 (by decide +kernel) (by decide +kernel)
theorem tb_918 : Cond.selects "MiddleOfCourt" ⟨"MiddleOfCourt", "taken", "(II)I"⟩ ⟨"MiddleOfCourt", "taken", "(II)I"⟩ ∈ TBL := TBL_of 918 (by decide +kernel) (by decide +kernel)
theorem tb_919 : Cond.code ⟨"MiddleOfCourt", "taken", "(II)I"⟩ prog_1_method_30_code 4 (some .int) ∈ TBL := TBL_of 919 (by decide +kernel) (by decide +kernel)
theorem tb_920 : Cond.methodLink "MiddleOfCourt" 284 ⟨"MiddleOfCourt", "isUnder", "(LMiddleOfCourt$Stroke;I)Z"⟩ ∈ TBL := TBL_of 920 (by decide +kernel) (by decide +kernel)
theorem tb_921 : Cond.static ⟨"MiddleOfCourt", "isUnder", "(LMiddleOfCourt$Stroke;I)Z"⟩ ∈ TBL := TBL_of 921 (by decide +kernel) (by decide +kernel)
theorem tb_922 : Cond.code ⟨"MiddleOfCourt", "isUnder", "(LMiddleOfCourt$Stroke;I)Z"⟩ prog_1_method_37_code 2 (some .boolean) ∈ TBL := TBL_of 922 (by decide +kernel) (by decide +kernel)
theorem tb_923 : Cond.classLink "MiddleOfCourtLaw" 10 "MiddleOfCourtModel" ∈ TBL := TBL_of 923 (by decide +kernel) (by decide +kernel)
theorem tb_924 : Cond.instantiable "MiddleOfCourtModel" 51 ∈ TBL := TBL_of 924 (by decide +kernel) (by decide +kernel)
theorem tb_925 : Cond.methodLink "MiddleOfCourtLaw" 12 ⟨"MiddleOfCourtModel", "<init>", "()V"⟩ ∈ TBL := TBL_of 925 (by decide +kernel) (by decide +kernel)
theorem tb_926 : Cond.instanceMethod ⟨"MiddleOfCourtModel", "<init>", "()V"⟩ ∈ TBL := TBL_of 926 (by decide +kernel) (by decide +kernel)
theorem tb_927 : Cond.code ⟨"MiddleOfCourtModel", "<init>", "()V"⟩ prog_14_method_4_code 2 none ∈ TBL := TBL_of 927 (by decide +kernel) (by decide +kernel)
theorem tb_928 : Cond.methodLink "MiddleOfCourtModel" 7 ⟨"java/lang/Object", "<init>", "()V"⟩ ∈ TBL := TBL_of 928 (by decide +kernel) (by decide +kernel)
theorem tb_929 : Cond.methodLink "MiddleOfCourtModel" 72 ⟨"MiddleOfCourtModel", "spell", "(IIIIIIIII)V"⟩ ∈ TBL := TBL_of 929 (by decide +kernel) (by decide +kernel)
theorem tb_931 : Cond.instanceMethod ⟨"MiddleOfCourtModel", "spell", "(IIIIIIIII)V"⟩ ∈ TBL := TBL_of 931 (by decide +kernel) (by decide +kernel)
theorem tb_932 : Cond.code ⟨"MiddleOfCourtModel", "spell", "(IIIIIIIII)V"⟩ prog_14_method_5_code 10 none ∈ TBL := TBL_of 932 (by decide +kernel) (by decide +kernel)
theorem tb_933 : Cond.fieldLink "MiddleOfCourtModel" 13 "MiddleOfCourtModel" "texts" "[I" ∈ TBL := TBL_of 933 (by decide +kernel) (by decide +kernel)
theorem tb_934 : Cond.fieldLink "MiddleOfCourtModel" 17 "MiddleOfCourtModel" "textSize" "[I" ∈ TBL := TBL_of 934 (by decide +kernel) (by decide +kernel)
theorem tb_935 : Cond.fieldLink "MiddleOfCourtModel" 76 "MiddleOfCourtModel" "textCount" "I" ∈ TBL := TBL_of 935 (by decide +kernel) (by decide +kernel)
theorem tb_936 : Cond.fieldLink "MiddleOfCourtModel" 239 "MiddleOfCourtModel" "rule" "I" ∈ TBL := TBL_of 936 (by decide +kernel) (by decide +kernel)
theorem tb_937 : Cond.fieldLink "MiddleOfCourtModel" 20 "MiddleOfCourtModel" "tape" "[I" ∈ TBL := TBL_of 937 (by decide +kernel) (by decide +kernel)
theorem tb_938 : Cond.fieldLink "MiddleOfCourtModel" 121 "MiddleOfCourtModel" "taped" "I" ∈ TBL := TBL_of 938 (by decide +kernel) (by decide +kernel)
theorem tb_939 : Cond.fieldLink "MiddleOfCourtModel" 23 "MiddleOfCourtModel" "cells" "[I" ∈ TBL := TBL_of 939 (by decide +kernel) (by decide +kernel)
theorem tb_940 : Cond.fieldLink "MiddleOfCourtModel" 26 "MiddleOfCourtModel" "legs" "[I" ∈ TBL := TBL_of 940 (by decide +kernel) (by decide +kernel)
theorem tb_941 : Cond.fieldLink "MiddleOfCourtModel" 29 "MiddleOfCourtModel" "quick" "[I" ∈ TBL := TBL_of 941 (by decide +kernel) (by decide +kernel)
theorem tb_942 : Cond.fieldLink "MiddleOfCourtModel" 32 "MiddleOfCourtModel" "homes" "[I" ∈ TBL := TBL_of 942 (by decide +kernel) (by decide +kernel)
theorem tb_943 : Cond.fieldLink "MiddleOfCourtModel" 109 "MiddleOfCourtModel" "warmth" "I" ∈ TBL := TBL_of 943 (by decide +kernel) (by decide +kernel)
theorem tb_944 : Cond.fieldLink "MiddleOfCourtModel" 35 "MiddleOfCourtModel" "kinds" "[I" ∈ TBL := TBL_of 944 (by decide +kernel) (by decide +kernel)
theorem tb_945 : Cond.fieldLink "MiddleOfCourtModel" 38 "MiddleOfCourtModel" "numbers" "[I" ∈ TBL := TBL_of 945 (by decide +kernel) (by decide +kernel)
theorem tb_946 : Cond.fieldLink "MiddleOfCourtModel" 41 "MiddleOfCourtModel" "aims" "[I" ∈ TBL := TBL_of 946 (by decide +kernel) (by decide +kernel)
theorem tb_947 : Cond.fieldLink "MiddleOfCourtModel" 79 "MiddleOfCourtModel" "strokeMany" "I" ∈ TBL := TBL_of 947 (by decide +kernel) (by decide +kernel)
theorem tb_948 : Cond.fieldLink "MiddleOfCourtModel" 181 "MiddleOfCourtModel" "ofFar" "I" ∈ TBL := TBL_of 948 (by decide +kernel) (by decide +kernel)
theorem tb_949 : Cond.fieldLink "MiddleOfCourtModel" 184 "MiddleOfCourtModel" "ofWarm" "I" ∈ TBL := TBL_of 949 (by decide +kernel) (by decide +kernel)
theorem tb_950 : Cond.fieldLink "MiddleOfCourtModel" 187 "MiddleOfCourtModel" "ofLegs" "I" ∈ TBL := TBL_of 950 (by decide +kernel) (by decide +kernel)
theorem tb_951 : Cond.fieldLink "MiddleOfCourtModel" 190 "MiddleOfCourtModel" "ofQuick" "I" ∈ TBL := TBL_of 951 (by decide +kernel) (by decide +kernel)
theorem tb_952 : Cond.fieldLink "MiddleOfCourtModel" 193 "MiddleOfCourtModel" "ofNumber" "I" ∈ TBL := TBL_of 952 (by decide +kernel) (by decide +kernel)
theorem tb_953 : Cond.fieldLink "MiddleOfCourtModel" 196 "MiddleOfCourtModel" "ofCell" "I" ∈ TBL := TBL_of 953 (by decide +kernel) (by decide +kernel)
theorem tb_954 : Cond.fieldLink "MiddleOfCourtModel" 127 "MiddleOfCourtModel" "from" "I" ∈ TBL := TBL_of 954 (by decide +kernel) (by decide +kernel)
theorem tb_955 : Cond.fieldLink "MiddleOfCourtModel" 124 "MiddleOfCourtModel" "size" "I" ∈ TBL := TBL_of 955 (by decide +kernel) (by decide +kernel)
theorem tb_956 : Cond.fieldLink "MiddleOfCourtModel" 130 "MiddleOfCourtModel" "here" "I" ∈ TBL := TBL_of 956 (by decide +kernel) (by decide +kernel)
theorem tb_957 : Cond.fieldLink "MiddleOfCourtModel" 140 "MiddleOfCourtModel" "token" "I" ∈ TBL := TBL_of 957 (by decide +kernel) (by decide +kernel)
theorem tb_958 : Cond.fieldLink "MiddleOfCourtModel" 137 "MiddleOfCourtModel" "tokenAt" "I" ∈ TBL := TBL_of 958 (by decide +kernel) (by decide +kernel)
theorem tb_959 : Cond.fieldLink "MiddleOfCourtModel" 151 "MiddleOfCourtModel" "tokenWorth" "J" ∈ TBL := TBL_of 959 (by decide +kernel) (by decide +kernel)
theorem tb_960 : Cond.fieldLink "MiddleOfCourtModel" 168 "MiddleOfCourtModel" "open" "I" ∈ TBL := TBL_of 960 (by decide +kernel) (by decide +kernel)
theorem tb_961 : Cond.fieldLink "MiddleOfCourtModel" 157 "MiddleOfCourtModel" "bad" "Z" ∈ TBL := TBL_of 961 (by decide +kernel) (by decide +kernel)
theorem tb_962 : Cond.fieldLink "MiddleOfCourtModel" 161 "MiddleOfCourtModel" "fault" "I" ∈ TBL := TBL_of 962 (by decide +kernel) (by decide +kernel)
theorem tb_963 : Cond.fieldLink "MiddleOfCourtModel" 276 "MiddleOfCourtModel" "cameTo" "I" ∈ TBL := TBL_of 963 (by decide +kernel) (by decide +kernel)
theorem tb_964 : Cond.fieldLink "MiddleOfCourtModel" 44 "MiddleOfCourtModel" "aside" "[I" ∈ TBL := TBL_of 964 (by decide +kernel) (by decide +kernel)
theorem tb_965 : Cond.fieldLink "MiddleOfCourtModel" 283 "MiddleOfCourtModel" "asideMany" "I" ∈ TBL := TBL_of 965 (by decide +kernel) (by decide +kernel)
theorem tb_966 : Cond.fieldLink "MiddleOfCourtModel" 286 "MiddleOfCourtModel" "wins" "I" ∈ TBL := TBL_of 966 (by decide +kernel) (by decide +kernel)
theorem tb_967 : Cond.fieldLink "MiddleOfCourtModel" 289 "MiddleOfCourtModel" "struck" "I" ∈ TBL := TBL_of 967 (by decide +kernel) (by decide +kernel)
theorem tb_968 : Cond.fieldLink "MiddleOfCourtModel" 294 "MiddleOfCourtModel" "likelyNow" "J" ∈ TBL := TBL_of 968 (by decide +kernel) (by decide +kernel)
theorem tb_969 : Cond.fieldLink "MiddleOfCourtModel" 297 "MiddleOfCourtModel" "wayAt" "I" ∈ TBL := TBL_of 969 (by decide +kernel) (by decide +kernel)
theorem tb_970 : Cond.fieldLink "MiddleOfCourtModel" 47 "MiddleOfCourtModel" "ballRow" "[I" ∈ TBL := TBL_of 970 (by decide +kernel) (by decide +kernel)
theorem tb_971 : Cond.fieldLink "MiddleOfCourtModel" 327 "MiddleOfCourtModel" "bestStroke" "I" ∈ TBL := TBL_of 971 (by decide +kernel) (by decide +kernel)
theorem tb_972 : Cond.fieldLink "MiddleOfCourtModel" 337 "MiddleOfCourtModel" "rowsMany" "I" ∈ TBL := TBL_of 972 (by decide +kernel) (by decide +kernel)
theorem tb_973 : Cond.fieldLink "MiddleOfCourtModel" 340 "MiddleOfCourtModel" "rowsFirst" "I" ∈ TBL := TBL_of 973 (by decide +kernel) (by decide +kernel)
theorem tb_974 : Cond.fieldLink "MiddleOfCourtModel" 50 "MiddleOfCourtModel" "playersKept" "[I" ∈ TBL := TBL_of 974 (by decide +kernel) (by decide +kernel)
theorem tb_975 : Cond.fieldLink "MiddleOfCourtModel" 53 "MiddleOfCourtModel" "strokesKept" "[I" ∈ TBL := TBL_of 975 (by decide +kernel) (by decide +kernel)
theorem tb_976 : Cond.fieldLink "MiddleOfCourtModel" 56 "MiddleOfCourtModel" "manyKept" "I" ∈ TBL := TBL_of 976 (by decide +kernel) (by decide +kernel)
theorem tb_977 : Cond.fieldLink "MiddleOfCourtModel" 364 "MiddleOfCourtModel" "warmKept" "I" ∈ TBL := TBL_of 977 (by decide +kernel) (by decide +kernel)
theorem tb_978 : Cond.fieldLink "MiddleOfCourtModel" 367 "MiddleOfCourtModel" "ruleKept" "I" ∈ TBL := TBL_of 978 (by decide +kernel) (by decide +kernel)
theorem tb_979 : Cond.fieldLink "MiddleOfCourtModel" 59 "MiddleOfCourtModel" "isThere" "[Z" ∈ TBL := TBL_of 979 (by decide +kernel) (by decide +kernel)
theorem tb_980 : Cond.fieldLink "MiddleOfCourtModel" 63 "MiddleOfCourtModel" "sorts" "[I" ∈ TBL := TBL_of 980 (by decide +kernel) (by decide +kernel)
theorem tb_981 : Cond.fieldLink "MiddleOfCourtModel" 66 "MiddleOfCourtModel" "sheetSize" "[I" ∈ TBL := TBL_of 981 (by decide +kernel) (by decide +kernel)
theorem tb_982 : Cond.fieldLink "MiddleOfCourtModel" 69 "MiddleOfCourtModel" "items" "[I" ∈ TBL := TBL_of 982 (by decide +kernel) (by decide +kernel)
theorem tb_983 : Cond.lays "MiddleOfCourtModel" "MiddleOfCourtModel" "thrown" "I" ∈ TBL := TBL_of 983 (by decide +kernel) (by decide +kernel)
theorem tb_985 : Cond.laysFinal "MiddleOfCourtModel" "MiddleOfCourtModel" "texts" "[I" ∈ TBL := TBL_of 985 (by decide +kernel) (by decide +kernel)
theorem tb_987 : Cond.laysFinal "MiddleOfCourtModel" "MiddleOfCourtModel" "textSize" "[I" ∈ TBL := TBL_of 987 (by decide +kernel) (by decide +kernel)
theorem tb_989 : Cond.lays "MiddleOfCourtModel" "MiddleOfCourtModel" "textCount" "I" ∈ TBL := TBL_of 989 (by decide +kernel) (by decide +kernel)
theorem tb_991 : Cond.lays "MiddleOfCourtModel" "MiddleOfCourtModel" "rule" "I" ∈ TBL := TBL_of 991 (by decide +kernel) (by decide +kernel)
theorem tb_993 : Cond.laysFinal "MiddleOfCourtModel" "MiddleOfCourtModel" "tape" "[I" ∈ TBL := TBL_of 993 (by decide +kernel) (by decide +kernel)
theorem tb_995 : Cond.lays "MiddleOfCourtModel" "MiddleOfCourtModel" "taped" "I" ∈ TBL := TBL_of 995 (by decide +kernel) (by decide +kernel)
theorem tb_997 : Cond.laysFinal "MiddleOfCourtModel" "MiddleOfCourtModel" "cells" "[I" ∈ TBL := TBL_of 997 (by decide +kernel) (by decide +kernel)
theorem tb_999 : Cond.laysFinal "MiddleOfCourtModel" "MiddleOfCourtModel" "legs" "[I" ∈ TBL := TBL_of 999 (by decide +kernel) (by decide +kernel)
theorem tb_1001 : Cond.laysFinal "MiddleOfCourtModel" "MiddleOfCourtModel" "quick" "[I" ∈ TBL := TBL_of 1001 (by decide +kernel) (by decide +kernel)
theorem tb_1003 : Cond.laysFinal "MiddleOfCourtModel" "MiddleOfCourtModel" "homes" "[I" ∈ TBL := TBL_of 1003 (by decide +kernel) (by decide +kernel)
theorem tb_1005 : Cond.lays "MiddleOfCourtModel" "MiddleOfCourtModel" "warmth" "I" ∈ TBL := TBL_of 1005 (by decide +kernel) (by decide +kernel)
theorem tb_1007 : Cond.laysFinal "MiddleOfCourtModel" "MiddleOfCourtModel" "kinds" "[I" ∈ TBL := TBL_of 1007 (by decide +kernel) (by decide +kernel)
theorem tb_1009 : Cond.laysFinal "MiddleOfCourtModel" "MiddleOfCourtModel" "numbers" "[I" ∈ TBL := TBL_of 1009 (by decide +kernel) (by decide +kernel)
theorem tb_1011 : Cond.laysFinal "MiddleOfCourtModel" "MiddleOfCourtModel" "aims" "[I" ∈ TBL := TBL_of 1011 (by decide +kernel) (by decide +kernel)
theorem tb_1013 : Cond.lays "MiddleOfCourtModel" "MiddleOfCourtModel" "strokeMany" "I" ∈ TBL := TBL_of 1013 (by decide +kernel) (by decide +kernel)
theorem tb_1015 : Cond.lays "MiddleOfCourtModel" "MiddleOfCourtModel" "ofFar" "I" ∈ TBL := TBL_of 1015 (by decide +kernel) (by decide +kernel)
theorem tb_1017 : Cond.lays "MiddleOfCourtModel" "MiddleOfCourtModel" "ofWarm" "I" ∈ TBL := TBL_of 1017 (by decide +kernel) (by decide +kernel)
theorem tb_1019 : Cond.lays "MiddleOfCourtModel" "MiddleOfCourtModel" "ofLegs" "I" ∈ TBL := TBL_of 1019 (by decide +kernel) (by decide +kernel)
theorem tb_1021 : Cond.lays "MiddleOfCourtModel" "MiddleOfCourtModel" "ofQuick" "I" ∈ TBL := TBL_of 1021 (by decide +kernel) (by decide +kernel)
theorem tb_1023 : Cond.lays "MiddleOfCourtModel" "MiddleOfCourtModel" "ofNumber" "I" ∈ TBL := TBL_of 1023 (by decide +kernel) (by decide +kernel)
theorem tb_1025 : Cond.lays "MiddleOfCourtModel" "MiddleOfCourtModel" "ofCell" "I" ∈ TBL := TBL_of 1025 (by decide +kernel) (by decide +kernel)
theorem tb_1027 : Cond.lays "MiddleOfCourtModel" "MiddleOfCourtModel" "from" "I" ∈ TBL := TBL_of 1027 (by decide +kernel) (by decide +kernel)
theorem tb_1029 : Cond.lays "MiddleOfCourtModel" "MiddleOfCourtModel" "size" "I" ∈ TBL := TBL_of 1029 (by decide +kernel) (by decide +kernel)
theorem tb_1031 : Cond.lays "MiddleOfCourtModel" "MiddleOfCourtModel" "here" "I" ∈ TBL := TBL_of 1031 (by decide +kernel) (by decide +kernel)
theorem tb_1033 : Cond.lays "MiddleOfCourtModel" "MiddleOfCourtModel" "token" "I" ∈ TBL := TBL_of 1033 (by decide +kernel) (by decide +kernel)
theorem tb_1035 : Cond.lays "MiddleOfCourtModel" "MiddleOfCourtModel" "tokenAt" "I" ∈ TBL := TBL_of 1035 (by decide +kernel) (by decide +kernel)
theorem tb_1037 : Cond.lays "MiddleOfCourtModel" "MiddleOfCourtModel" "tokenWorth" "J" ∈ TBL := TBL_of 1037 (by decide +kernel) (by decide +kernel)
theorem tb_1039 : Cond.lays "MiddleOfCourtModel" "MiddleOfCourtModel" "open" "I" ∈ TBL := TBL_of 1039 (by decide +kernel) (by decide +kernel)
theorem tb_1041 : Cond.lays "MiddleOfCourtModel" "MiddleOfCourtModel" "bad" "Z" ∈ TBL := TBL_of 1041 (by decide +kernel) (by decide +kernel)
theorem tb_1043 : Cond.lays "MiddleOfCourtModel" "MiddleOfCourtModel" "fault" "I" ∈ TBL := TBL_of 1043 (by decide +kernel) (by decide +kernel)
theorem tb_1045 : Cond.lays "MiddleOfCourtModel" "MiddleOfCourtModel" "cameTo" "I" ∈ TBL := TBL_of 1045 (by decide +kernel) (by decide +kernel)
theorem tb_1047 : Cond.laysFinal "MiddleOfCourtModel" "MiddleOfCourtModel" "aside" "[I" ∈ TBL := TBL_of 1047 (by decide +kernel) (by decide +kernel)
theorem tb_1049 : Cond.lays "MiddleOfCourtModel" "MiddleOfCourtModel" "asideMany" "I" ∈ TBL := TBL_of 1049 (by decide +kernel) (by decide +kernel)
theorem tb_1051 : Cond.lays "MiddleOfCourtModel" "MiddleOfCourtModel" "wins" "I" ∈ TBL := TBL_of 1051 (by decide +kernel) (by decide +kernel)
theorem tb_1053 : Cond.lays "MiddleOfCourtModel" "MiddleOfCourtModel" "struck" "I" ∈ TBL := TBL_of 1053 (by decide +kernel) (by decide +kernel)
theorem tb_1055 : Cond.lays "MiddleOfCourtModel" "MiddleOfCourtModel" "likelyNow" "J" ∈ TBL := TBL_of 1055 (by decide +kernel) (by decide +kernel)
theorem tb_1057 : Cond.lays "MiddleOfCourtModel" "MiddleOfCourtModel" "wayAt" "I" ∈ TBL := TBL_of 1057 (by decide +kernel) (by decide +kernel)
theorem tb_1059 : Cond.laysFinal "MiddleOfCourtModel" "MiddleOfCourtModel" "ballRow" "[I" ∈ TBL := TBL_of 1059 (by decide +kernel) (by decide +kernel)
theorem tb_1061 : Cond.lays "MiddleOfCourtModel" "MiddleOfCourtModel" "bestStroke" "I" ∈ TBL := TBL_of 1061 (by decide +kernel) (by decide +kernel)
theorem tb_1063 : Cond.lays "MiddleOfCourtModel" "MiddleOfCourtModel" "rowsMany" "I" ∈ TBL := TBL_of 1063 (by decide +kernel) (by decide +kernel)
theorem tb_1065 : Cond.lays "MiddleOfCourtModel" "MiddleOfCourtModel" "rowsFirst" "I" ∈ TBL := TBL_of 1065 (by decide +kernel) (by decide +kernel)
theorem tb_1067 : Cond.laysFinal "MiddleOfCourtModel" "MiddleOfCourtModel" "playersKept" "[I" ∈ TBL := TBL_of 1067 (by decide +kernel) (by decide +kernel)
theorem tb_1069 : Cond.laysFinal "MiddleOfCourtModel" "MiddleOfCourtModel" "strokesKept" "[I" ∈ TBL := TBL_of 1069 (by decide +kernel) (by decide +kernel)
theorem tb_1071 : Cond.lays "MiddleOfCourtModel" "MiddleOfCourtModel" "manyKept" "I" ∈ TBL := TBL_of 1071 (by decide +kernel) (by decide +kernel)
theorem tb_1073 : Cond.lays "MiddleOfCourtModel" "MiddleOfCourtModel" "warmKept" "I" ∈ TBL := TBL_of 1073 (by decide +kernel) (by decide +kernel)
theorem tb_1075 : Cond.lays "MiddleOfCourtModel" "MiddleOfCourtModel" "ruleKept" "I" ∈ TBL := TBL_of 1075 (by decide +kernel) (by decide +kernel)
theorem tb_1077 : Cond.laysFinal "MiddleOfCourtModel" "MiddleOfCourtModel" "isThere" "[Z" ∈ TBL := TBL_of 1077 (by decide +kernel) (by decide +kernel)
theorem tb_1079 : Cond.laysFinal "MiddleOfCourtModel" "MiddleOfCourtModel" "sorts" "[I" ∈ TBL := TBL_of 1079 (by decide +kernel) (by decide +kernel)
theorem tb_1081 : Cond.laysFinal "MiddleOfCourtModel" "MiddleOfCourtModel" "sheetSize" "[I" ∈ TBL := TBL_of 1081 (by decide +kernel) (by decide +kernel)
theorem tb_1083 : Cond.laysFinal "MiddleOfCourtModel" "MiddleOfCourtModel" "items" "[I" ∈ TBL := TBL_of 1083 (by decide +kernel) (by decide +kernel)
theorem tb_1085 : Cond.superclass "MiddleOfCourtModel" "java/lang/Object" ∈ TBL := TBL_of 1085 (by decide +kernel) (by decide +kernel)
theorem tb_1086 : Cond.arrayClass .boolean ∈ TBL := TBL_of 1086 (by decide +kernel) (by decide +kernel)
theorem tb_1087 : Cond.methodLink "MiddleOfCourtLaw" 17 ⟨"MiddleOfCourtModel", "set", "(III)I"⟩ ∈ TBL := TBL_of 1087 (by decide +kernel) (by decide +kernel)
theorem tb_1088 : Cond.instanceMethod ⟨"MiddleOfCourtModel", "set", "(III)I"⟩ ∈ TBL := TBL_of 1088 (by decide +kernel) (by decide +kernel)
theorem tb_1089 : Cond.selects "MiddleOfCourtModel" ⟨"MiddleOfCourtModel", "set", "(III)I"⟩ ⟨"MiddleOfCourtModel", "set", "(III)I"⟩ ∈ TBL := TBL_of 1089 (by decide +kernel) (by decide +kernel)
theorem tb_1090 : Cond.code ⟨"MiddleOfCourtModel", "set", "(III)I"⟩ prog_14_method_9_code 5 (some .int) ∈ TBL := TBL_of 1090 (by decide +kernel) (by decide +kernel)
theorem tb_1091 : Cond.constantLong "MiddleOfCourtModel" 88 (6 : Int64) ∈ TBL := TBL_of 1091 (by decide +kernel) (by decide +kernel)
theorem tb_1092 : Cond.methodLink "MiddleOfCourtModel" 82 ⟨"MiddleOfCourtModel", "in", "(JJJ)Z"⟩ ∈ TBL := TBL_of 1092 (by decide +kernel) (by decide +kernel)
theorem tb_1093 : Cond.static ⟨"MiddleOfCourtModel", "in", "(JJJ)Z"⟩ ∈ TBL := TBL_of 1093 (by decide +kernel) (by decide +kernel)
theorem tb_1094 : Cond.code ⟨"MiddleOfCourtModel", "in", "(JJJ)Z"⟩ prog_14_method_2_code 6 (some .boolean) ∈ TBL := TBL_of 1094 (by decide +kernel) (by decide +kernel)
theorem tb_1095 : Cond.methodLink "MiddleOfCourtModel" 90 ⟨"MiddleOfCourtModel", "isPlayer", "(I)Z"⟩ ∈ TBL := TBL_of 1095 (by decide +kernel) (by decide +kernel)
theorem tb_1096 : Cond.static ⟨"MiddleOfCourtModel", "isPlayer", "(I)Z"⟩ ∈ TBL := TBL_of 1096 (by decide +kernel) (by decide +kernel)
theorem tb_1097 : Cond.code ⟨"MiddleOfCourtModel", "isPlayer", "(I)Z"⟩ prog_14_method_7_code 1 (some .boolean) ∈ TBL := TBL_of 1097 (by decide +kernel) (by decide +kernel)
theorem tb_1098 : Cond.constantLong "MiddleOfCourtModel" 94 (4 : Int64) ∈ TBL := TBL_of 1098 (by decide +kernel) (by decide +kernel)
theorem tb_1099 : Cond.constantLong "MiddleOfCourtModel" 96 (5 : Int64) ∈ TBL := TBL_of 1099 (by decide +kernel) (by decide +kernel)
theorem tb_1100 : Cond.methodLink "MiddleOfCourtModel" 98 ⟨"MiddleOfCourtModel", "isStroke", "(I)Z"⟩ ∈ TBL := TBL_of 1100 (by decide +kernel) (by decide +kernel)
theorem tb_1102 : Cond.instanceMethod ⟨"MiddleOfCourtModel", "isStroke", "(I)Z"⟩ ∈ TBL := TBL_of 1102 (by decide +kernel) (by decide +kernel)
theorem tb_1103 : Cond.code ⟨"MiddleOfCourtModel", "isStroke", "(I)Z"⟩ prog_14_method_6_code 2 (some .boolean) ∈ TBL := TBL_of 1103 (by decide +kernel) (by decide +kernel)
theorem tb_1104 : Cond.constantLong "MiddleOfCourtModel" 101 (-1 : Int64) ∈ TBL := TBL_of 1104 (by decide +kernel) (by decide +kernel)
theorem tb_1105 : Cond.constantLong "MiddleOfCourtModel" 103 (999 : Int64) ∈ TBL := TBL_of 1105 (by decide +kernel) (by decide +kernel)
theorem tb_1106 : Cond.constantLong "MiddleOfCourtModel" 105 (9 : Int64) ∈ TBL := TBL_of 1106 (by decide +kernel) (by decide +kernel)
theorem tb_1107 : Cond.constantLong "MiddleOfCourtModel" 107 (99 : Int64) ∈ TBL := TBL_of 1107 (by decide +kernel) (by decide +kernel)
theorem tb_1108 : Cond.constantLong "MiddleOfCourtModel" 86 (24 : Int64) ∈ TBL := TBL_of 1108 (by decide +kernel) (by decide +kernel)
theorem tb_1109 : Cond.methodLink "MiddleOfCourtModel" 112 ⟨"MiddleOfCourtModel", "told", "(II)I"⟩ ∈ TBL := TBL_of 1109 (by decide +kernel) (by decide +kernel)
theorem tb_1110 : Cond.instanceMethod ⟨"MiddleOfCourtModel", "told", "(II)I"⟩ ∈ TBL := TBL_of 1110 (by decide +kernel) (by decide +kernel)
theorem tb_1111 : Cond.selects "MiddleOfCourtModel" ⟨"MiddleOfCourtModel", "told", "(II)I"⟩ ⟨"MiddleOfCourtModel", "told", "(II)I"⟩ ∈ TBL := TBL_of 1111 (by decide +kernel) (by decide +kernel)
theorem tb_1112 : Cond.code ⟨"MiddleOfCourtModel", "told", "(II)I"⟩ prog_14_method_11_code 3 (some .int) ∈ TBL := TBL_of 1112 (by decide +kernel) (by decide +kernel)
theorem tb_1113 : Cond.methodLink "MiddleOfCourtLaw" 21 ⟨"MiddleOfCourtModel", "stroke", "(III)I"⟩ ∈ TBL := TBL_of 1113 (by decide +kernel) (by decide +kernel)
theorem tb_1114 : Cond.instanceMethod ⟨"MiddleOfCourtModel", "stroke", "(III)I"⟩ ∈ TBL := TBL_of 1114 (by decide +kernel) (by decide +kernel)
theorem tb_1115 : Cond.selects "MiddleOfCourtModel" ⟨"MiddleOfCourtModel", "stroke", "(III)I"⟩ ⟨"MiddleOfCourtModel", "stroke", "(III)I"⟩ ∈ TBL := TBL_of 1115 (by decide +kernel) (by decide +kernel)
theorem tb_1116 : Cond.code ⟨"MiddleOfCourtModel", "stroke", "(III)I"⟩ prog_14_method_10_code 4 (some .int) ∈ TBL := TBL_of 1116 (by decide +kernel) (by decide +kernel)
theorem tb_1117 : Cond.methodLink "MiddleOfCourtModel" 116 ⟨"MiddleOfCourtModel", "isCell", "(I)Z"⟩ ∈ TBL := TBL_of 1117 (by decide +kernel) (by decide +kernel)
theorem tb_1118 : Cond.static ⟨"MiddleOfCourtModel", "isCell", "(I)Z"⟩ ∈ TBL := TBL_of 1118 (by decide +kernel) (by decide +kernel)
theorem tb_1119 : Cond.code ⟨"MiddleOfCourtModel", "isCell", "(I)Z"⟩ prog_14_method_8_code 1 (some .boolean) ∈ TBL := TBL_of 1119 (by decide +kernel) (by decide +kernel)
theorem tb_1120 : Cond.methodLink "MiddleOfCourtLaw" 26 ⟨"MiddleOfCourtModel", "told", "(II)I"⟩ ∈ TBL := TBL_of 1120 (by decide +kernel) (by decide +kernel)
theorem tb_1121 : Cond.methodLink "MiddleOfCourtLaw" 39 ⟨"MiddleOfCourtModel", "feed", "(I)I"⟩ ∈ TBL := TBL_of 1121 (by decide +kernel) (by decide +kernel)
theorem tb_1122 : Cond.instanceMethod ⟨"MiddleOfCourtModel", "feed", "(I)I"⟩ ∈ TBL := TBL_of 1122 (by decide +kernel) (by decide +kernel)
theorem tb_1123 : Cond.selects "MiddleOfCourtModel" ⟨"MiddleOfCourtModel", "feed", "(I)I"⟩ ⟨"MiddleOfCourtModel", "feed", "(I)I"⟩ ∈ TBL := TBL_of 1123 (by decide +kernel) (by decide +kernel)
theorem tb_1124 : Cond.code ⟨"MiddleOfCourtModel", "feed", "(I)I"⟩ prog_14_method_12_code 2 (some .int) ∈ TBL := TBL_of 1124 (by decide +kernel) (by decide +kernel)
theorem tb_1125 : Cond.constantLong "MiddleOfCourtModel" 119 (255 : Int64) ∈ TBL := TBL_of 1125 (by decide +kernel) (by decide +kernel)
theorem tb_1126 : Cond.methodLink "MiddleOfCourtLaw" 44 ⟨"MiddleOfCourtModel", "text", "()I"⟩ ∈ TBL := TBL_of 1126 (by decide +kernel) (by decide +kernel)
theorem tb_1127 : Cond.instanceMethod ⟨"MiddleOfCourtModel", "text", "()I"⟩ ∈ TBL := TBL_of 1127 (by decide +kernel) (by decide +kernel)
theorem tb_1128 : Cond.selects "MiddleOfCourtModel" ⟨"MiddleOfCourtModel", "text", "()I"⟩ ⟨"MiddleOfCourtModel", "text", "()I"⟩ ∈ TBL := TBL_of 1128 (by decide +kernel) (by decide +kernel)
theorem tb_1129 : Cond.code ⟨"MiddleOfCourtModel", "text", "()I"⟩ prog_14_method_29_code 2 (some .int) ∈ TBL := TBL_of 1129 (by decide +kernel) (by decide +kernel)
theorem tb_1130 : Cond.methodLink "MiddleOfCourtModel" 236 ⟨"MiddleOfCourtModel", "read", "(II)I"⟩ ∈ TBL := TBL_of 1130 (by decide +kernel) (by decide +kernel)
theorem tb_1132 : Cond.instanceMethod ⟨"MiddleOfCourtModel", "read", "(II)I"⟩ ∈ TBL := TBL_of 1132 (by decide +kernel) (by decide +kernel)
theorem tb_1133 : Cond.code ⟨"MiddleOfCourtModel", "read", "(II)I"⟩ prog_14_method_28_code 6 (some .int) ∈ TBL := TBL_of 1133 (by decide +kernel) (by decide +kernel)
theorem tb_1134 : Cond.methodLink "MiddleOfCourtModel" 174 ⟨"MiddleOfCourtModel", "next", "()V"⟩ ∈ TBL := TBL_of 1134 (by decide +kernel) (by decide +kernel)
theorem tb_1136 : Cond.instanceMethod ⟨"MiddleOfCourtModel", "next", "()V"⟩ ∈ TBL := TBL_of 1136 (by decide +kernel) (by decide +kernel)
theorem tb_1137 : Cond.code ⟨"MiddleOfCourtModel", "next", "()V"⟩ prog_14_method_14_code 3 none ∈ TBL := TBL_of 1137 (by decide +kernel) (by decide +kernel)
theorem tb_1138 : Cond.methodLink "MiddleOfCourtModel" 133 ⟨"MiddleOfCourtModel", "byteAt", "(I)I"⟩ ∈ TBL := TBL_of 1138 (by decide +kernel) (by decide +kernel)
theorem tb_1140 : Cond.instanceMethod ⟨"MiddleOfCourtModel", "byteAt", "(I)I"⟩ ∈ TBL := TBL_of 1140 (by decide +kernel) (by decide +kernel)
theorem tb_1141 : Cond.code ⟨"MiddleOfCourtModel", "byteAt", "(I)I"⟩ prog_14_method_13_code 2 (some .int) ∈ TBL := TBL_of 1141 (by decide +kernel) (by decide +kernel)
theorem tb_1142 : Cond.constantLong "MiddleOfCourtModel" 143 (97 : Int64) ∈ TBL := TBL_of 1142 (by decide +kernel) (by decide +kernel)
theorem tb_1143 : Cond.constantLong "MiddleOfCourtModel" 145 (122 : Int64) ∈ TBL := TBL_of 1143 (by decide +kernel) (by decide +kernel)
theorem tb_1144 : Cond.constantLong "MiddleOfCourtModel" 147 (48 : Int64) ∈ TBL := TBL_of 1144 (by decide +kernel) (by decide +kernel)
theorem tb_1145 : Cond.constantLong "MiddleOfCourtModel" 149 (57 : Int64) ∈ TBL := TBL_of 1145 (by decide +kernel) (by decide +kernel)
theorem tb_1146 : Cond.constantLong "MiddleOfCourtModel" 155 (10 : Int64) ∈ TBL := TBL_of 1146 (by decide +kernel) (by decide +kernel)
theorem tb_1147 : Cond.methodLink "MiddleOfCourtModel" 177 ⟨"MiddleOfCourtModel", "isWord", "(IIIIIIII)Z"⟩ ∈ TBL := TBL_of 1147 (by decide +kernel) (by decide +kernel)
theorem tb_1149 : Cond.instanceMethod ⟨"MiddleOfCourtModel", "isWord", "(IIIIIIII)Z"⟩ ∈ TBL := TBL_of 1149 (by decide +kernel) (by decide +kernel)
theorem tb_1150 : Cond.code ⟨"MiddleOfCourtModel", "isWord", "(IIIIIIII)Z"⟩ prog_14_method_17_code 9 (some .boolean) ∈ TBL := TBL_of 1150 (by decide +kernel) (by decide +kernel)
theorem tb_1151 : Cond.methodLink "MiddleOfCourtModel" 164 ⟨"MiddleOfCourtModel", "isLetter", "(II)Z"⟩ ∈ TBL := TBL_of 1151 (by decide +kernel) (by decide +kernel)
theorem tb_1153 : Cond.instanceMethod ⟨"MiddleOfCourtModel", "isLetter", "(II)Z"⟩ ∈ TBL := TBL_of 1153 (by decide +kernel) (by decide +kernel)
theorem tb_1154 : Cond.code ⟨"MiddleOfCourtModel", "isLetter", "(II)Z"⟩ prog_14_method_16_code 3 (some .boolean) ∈ TBL := TBL_of 1154 (by decide +kernel) (by decide +kernel)
theorem tb_1155 : Cond.methodLink "MiddleOfCourtModel" 232 ⟨"MiddleOfCourtModel", "part", "(Z)I"⟩ ∈ TBL := TBL_of 1155 (by decide +kernel) (by decide +kernel)
theorem tb_1157 : Cond.instanceMethod ⟨"MiddleOfCourtModel", "part", "(Z)I"⟩ ∈ TBL := TBL_of 1157 (by decide +kernel) (by decide +kernel)
theorem tb_1158 : Cond.code ⟨"MiddleOfCourtModel", "part", "(Z)I"⟩ prog_14_method_27_code 3 (some .int) ∈ TBL := TBL_of 1158 (by decide +kernel) (by decide +kernel)
theorem tb_1159 : Cond.methodLink "MiddleOfCourtModel" 171 ⟨"MiddleOfCourtModel", "fail", "()V"⟩ ∈ TBL := TBL_of 1159 (by decide +kernel) (by decide +kernel)
theorem tb_1161 : Cond.instanceMethod ⟨"MiddleOfCourtModel", "fail", "()V"⟩ ∈ TBL := TBL_of 1161 (by decide +kernel) (by decide +kernel)
theorem tb_1162 : Cond.code ⟨"MiddleOfCourtModel", "fail", "()V"⟩ prog_14_method_15_code 1 none ∈ TBL := TBL_of 1162 (by decide +kernel) (by decide +kernel)
theorem tb_1163 : Cond.methodLink "MiddleOfCourtModel" 210 ⟨"MiddleOfCourtModel", "either", "()I"⟩ ∈ TBL := TBL_of 1163 (by decide +kernel) (by decide +kernel)
theorem tb_1165 : Cond.instanceMethod ⟨"MiddleOfCourtModel", "either", "()I"⟩ ∈ TBL := TBL_of 1165 (by decide +kernel) (by decide +kernel)
theorem tb_1166 : Cond.code ⟨"MiddleOfCourtModel", "either", "()I"⟩ prog_14_method_26_code 3 (some .int) ∈ TBL := TBL_of 1166 (by decide +kernel) (by decide +kernel)
theorem tb_1167 : Cond.methodLink "MiddleOfCourtModel" 229 ⟨"MiddleOfCourtModel", "both", "()I"⟩ ∈ TBL := TBL_of 1167 (by decide +kernel) (by decide +kernel)
theorem tb_1169 : Cond.instanceMethod ⟨"MiddleOfCourtModel", "both", "()I"⟩ ∈ TBL := TBL_of 1169 (by decide +kernel) (by decide +kernel)
theorem tb_1170 : Cond.code ⟨"MiddleOfCourtModel", "both", "()I"⟩ prog_14_method_25_code 3 (some .int) ∈ TBL := TBL_of 1170 (by decide +kernel) (by decide +kernel)
theorem tb_1171 : Cond.methodLink "MiddleOfCourtModel" 221 ⟨"MiddleOfCourtModel", "not", "()I"⟩ ∈ TBL := TBL_of 1171 (by decide +kernel) (by decide +kernel)
theorem tb_1173 : Cond.instanceMethod ⟨"MiddleOfCourtModel", "not", "()I"⟩ ∈ TBL := TBL_of 1173 (by decide +kernel) (by decide +kernel)
theorem tb_1174 : Cond.code ⟨"MiddleOfCourtModel", "not", "()I"⟩ prog_14_method_24_code 4 (some .int) ∈ TBL := TBL_of 1174 (by decide +kernel) (by decide +kernel)
theorem tb_1175 : Cond.methodLink "MiddleOfCourtModel" 202 ⟨"MiddleOfCourtModel", "opens", "()Z"⟩ ∈ TBL := TBL_of 1175 (by decide +kernel) (by decide +kernel)
theorem tb_1177 : Cond.instanceMethod ⟨"MiddleOfCourtModel", "opens", "()Z"⟩ ∈ TBL := TBL_of 1177 (by decide +kernel) (by decide +kernel)
theorem tb_1178 : Cond.code ⟨"MiddleOfCourtModel", "opens", "()Z"⟩ prog_14_method_19_code 1 (some .boolean) ∈ TBL := TBL_of 1178 (by decide +kernel) (by decide +kernel)
theorem tb_1179 : Cond.methodLink "MiddleOfCourtModel" 224 ⟨"MiddleOfCourtModel", "added", "()I"⟩ ∈ TBL := TBL_of 1179 (by decide +kernel) (by decide +kernel)
theorem tb_1181 : Cond.instanceMethod ⟨"MiddleOfCourtModel", "added", "()I"⟩ ∈ TBL := TBL_of 1181 (by decide +kernel) (by decide +kernel)
theorem tb_1182 : Cond.code ⟨"MiddleOfCourtModel", "added", "()I"⟩ prog_14_method_23_code 4 (some .int) ∈ TBL := TBL_of 1182 (by decide +kernel) (by decide +kernel)
theorem tb_1183 : Cond.methodLink "MiddleOfCourtModel" 216 ⟨"MiddleOfCourtModel", "term", "()I"⟩ ∈ TBL := TBL_of 1183 (by decide +kernel) (by decide +kernel)
theorem tb_1185 : Cond.instanceMethod ⟨"MiddleOfCourtModel", "term", "()I"⟩ ∈ TBL := TBL_of 1185 (by decide +kernel) (by decide +kernel)
theorem tb_1186 : Cond.code ⟨"MiddleOfCourtModel", "term", "()I"⟩ prog_14_method_22_code 2 (some .int) ∈ TBL := TBL_of 1186 (by decide +kernel) (by decide +kernel)
theorem tb_1187 : Cond.methodLink "MiddleOfCourtModel" 206 ⟨"MiddleOfCourtModel", "atom", "()I"⟩ ∈ TBL := TBL_of 1187 (by decide +kernel) (by decide +kernel)
theorem tb_1189 : Cond.instanceMethod ⟨"MiddleOfCourtModel", "atom", "()I"⟩ ∈ TBL := TBL_of 1189 (by decide +kernel) (by decide +kernel)
theorem tb_1190 : Cond.code ⟨"MiddleOfCourtModel", "atom", "()I"⟩ prog_14_method_21_code 2 (some .int) ∈ TBL := TBL_of 1190 (by decide +kernel) (by decide +kernel)
theorem tb_1191 : Cond.methodLink "MiddleOfCourtModel" 199 ⟨"MiddleOfCourtModel", "isSign", "(I)Z"⟩ ∈ TBL := TBL_of 1191 (by decide +kernel) (by decide +kernel)
theorem tb_1193 : Cond.instanceMethod ⟨"MiddleOfCourtModel", "isSign", "(I)Z"⟩ ∈ TBL := TBL_of 1193 (by decide +kernel) (by decide +kernel)
theorem tb_1194 : Cond.code ⟨"MiddleOfCourtModel", "isSign", "(I)Z"⟩ prog_14_method_18_code 2 (some .boolean) ∈ TBL := TBL_of 1194 (by decide +kernel) (by decide +kernel)
theorem tb_1195 : Cond.methodLink "MiddleOfCourtModel" 213 ⟨"MiddleOfCourtModel", "name", "()I"⟩ ∈ TBL := TBL_of 1195 (by decide +kernel) (by decide +kernel)
theorem tb_1197 : Cond.instanceMethod ⟨"MiddleOfCourtModel", "name", "()I"⟩ ∈ TBL := TBL_of 1197 (by decide +kernel) (by decide +kernel)
theorem tb_1198 : Cond.code ⟨"MiddleOfCourtModel", "name", "()I"⟩ prog_14_method_20_code 1 (some .int) ∈ TBL := TBL_of 1198 (by decide +kernel) (by decide +kernel)
theorem tb_1199 : Cond.constantLong "MiddleOfCourtModel" 219 (43 : Int64) ∈ TBL := TBL_of 1199 (by decide +kernel) (by decide +kernel)
theorem tb_1200 : Cond.constantLong "MiddleOfCourtModel" 227 (60 : Int64) ∈ TBL := TBL_of 1200 (by decide +kernel) (by decide +kernel)
theorem tb_1201 : Cond.methodLink "MiddleOfCourtLaw" 48 ⟨"MiddleOfCourtModel", "force", "(I)I"⟩ ∈ TBL := TBL_of 1201 (by decide +kernel) (by decide +kernel)
theorem tb_1202 : Cond.instanceMethod ⟨"MiddleOfCourtModel", "force", "(I)I"⟩ ∈ TBL := TBL_of 1202 (by decide +kernel) (by decide +kernel)
theorem tb_1203 : Cond.selects "MiddleOfCourtModel" ⟨"MiddleOfCourtModel", "force", "(I)I"⟩ ⟨"MiddleOfCourtModel", "force", "(I)I"⟩ ∈ TBL := TBL_of 1203 (by decide +kernel) (by decide +kernel)
theorem tb_1204 : Cond.code ⟨"MiddleOfCourtModel", "force", "(I)I"⟩ prog_14_method_30_code 3 (some .int) ∈ TBL := TBL_of 1204 (by decide +kernel) (by decide +kernel)
theorem tb_1205 : Cond.methodLink "MiddleOfCourtLaw" 34 ⟨"MiddleOfCourtModel", "needs", "(II)I"⟩ ∈ TBL := TBL_of 1205 (by decide +kernel) (by decide +kernel)
theorem tb_1206 : Cond.instanceMethod ⟨"MiddleOfCourtModel", "needs", "(II)I"⟩ ∈ TBL := TBL_of 1206 (by decide +kernel) (by decide +kernel)
theorem tb_1207 : Cond.selects "MiddleOfCourtModel" ⟨"MiddleOfCourtModel", "needs", "(II)I"⟩ ⟨"MiddleOfCourtModel", "needs", "(II)I"⟩ ∈ TBL := TBL_of 1207 (by decide +kernel) (by decide +kernel)
theorem tb_1208 : Cond.code ⟨"MiddleOfCourtModel", "needs", "(II)I"⟩ prog_14_method_40_code 3 (some .int) ∈ TBL := TBL_of 1208 (by decide +kernel) (by decide +kernel)
theorem tb_1209 : Cond.constantLong "MiddleOfCourtModel" 262 (2499 : Int64) ∈ TBL := TBL_of 1209 (by decide +kernel) (by decide +kernel)
theorem tb_1210 : Cond.methodLink "MiddleOfCourtModel" 264 ⟨"MiddleOfCourtModel", "needsOf", "(III)I"⟩ ∈ TBL := TBL_of 1210 (by decide +kernel) (by decide +kernel)
theorem tb_1212 : Cond.instanceMethod ⟨"MiddleOfCourtModel", "needsOf", "(III)I"⟩ ∈ TBL := TBL_of 1212 (by decide +kernel) (by decide +kernel)
theorem tb_1213 : Cond.code ⟨"MiddleOfCourtModel", "needsOf", "(III)I"⟩ prog_14_method_39_code 5 (some .int) ∈ TBL := TBL_of 1213 (by decide +kernel) (by decide +kernel)
theorem tb_1214 : Cond.methodLink "MiddleOfCourtModel" 255 ⟨"MiddleOfCourtModel", "farOf", "(II)I"⟩ ∈ TBL := TBL_of 1214 (by decide +kernel) (by decide +kernel)
theorem tb_1215 : Cond.static ⟨"MiddleOfCourtModel", "farOf", "(II)I"⟩ ∈ TBL := TBL_of 1215 (by decide +kernel) (by decide +kernel)
theorem tb_1216 : Cond.code ⟨"MiddleOfCourtModel", "farOf", "(II)I"⟩ prog_14_method_33_code 4 (some .int) ∈ TBL := TBL_of 1216 (by decide +kernel) (by decide +kernel)
theorem tb_1217 : Cond.methodLink "MiddleOfCourtModel" 246 ⟨"MiddleOfCourtModel", "plain", "(I)I"⟩ ∈ TBL := TBL_of 1217 (by decide +kernel) (by decide +kernel)
theorem tb_1218 : Cond.static ⟨"MiddleOfCourtModel", "plain", "(I)I"⟩ ∈ TBL := TBL_of 1218 (by decide +kernel) (by decide +kernel)
theorem tb_1219 : Cond.code ⟨"MiddleOfCourtModel", "plain", "(I)I"⟩ prog_14_method_32_code 1 (some .int) ∈ TBL := TBL_of 1219 (by decide +kernel) (by decide +kernel)
theorem tb_1220 : Cond.methodLink "MiddleOfCourtModel" 258 ⟨"MiddleOfCourtModel", "says", "(IIIII)I"⟩ ∈ TBL := TBL_of 1220 (by decide +kernel) (by decide +kernel)
theorem tb_1222 : Cond.instanceMethod ⟨"MiddleOfCourtModel", "says", "(IIIII)I"⟩ ∈ TBL := TBL_of 1222 (by decide +kernel) (by decide +kernel)
theorem tb_1223 : Cond.code ⟨"MiddleOfCourtModel", "says", "(IIIII)I"⟩ prog_14_method_31_code 6 (some .int) ∈ TBL := TBL_of 1223 (by decide +kernel) (by decide +kernel)
theorem tb_1224 : Cond.methodLink "MiddleOfCourtModel" 242 ⟨"MiddleOfCourtModel", "within", "(III)I"⟩ ∈ TBL := TBL_of 1224 (by decide +kernel) (by decide +kernel)
theorem tb_1225 : Cond.static ⟨"MiddleOfCourtModel", "within", "(III)I"⟩ ∈ TBL := TBL_of 1225 (by decide +kernel) (by decide +kernel)
theorem tb_1226 : Cond.code ⟨"MiddleOfCourtModel", "within", "(III)I"⟩ prog_14_method_3_code 3 (some .int) ∈ TBL := TBL_of 1226 (by decide +kernel) (by decide +kernel)
theorem tb_1227 : Cond.methodLink "MiddleOfCourtLaw" 30 ⟨"MiddleOfCourtModel", "shot", "(III)I"⟩ ∈ TBL := TBL_of 1227 (by decide +kernel) (by decide +kernel)
theorem tb_1228 : Cond.instanceMethod ⟨"MiddleOfCourtModel", "shot", "(III)I"⟩ ∈ TBL := TBL_of 1228 (by decide +kernel) (by decide +kernel)
theorem tb_1229 : Cond.selects "MiddleOfCourtModel" ⟨"MiddleOfCourtModel", "shot", "(III)I"⟩ ⟨"MiddleOfCourtModel", "shot", "(III)I"⟩ ∈ TBL := TBL_of 1229 (by decide +kernel) (by decide +kernel)
theorem tb_1230 : Cond.code ⟨"MiddleOfCourtModel", "shot", "(III)I"⟩ prog_14_method_41_code 5 (some .int) ∈ TBL := TBL_of 1230 (by decide +kernel) (by decide +kernel)
theorem tb_1231 : Cond.methodLink "MiddleOfCourtModel" 252 ⟨"MiddleOfCourtModel", "comesTo", "(II)I"⟩ ∈ TBL := TBL_of 1231 (by decide +kernel) (by decide +kernel)
theorem tb_1233 : Cond.instanceMethod ⟨"MiddleOfCourtModel", "comesTo", "(II)I"⟩ ∈ TBL := TBL_of 1233 (by decide +kernel) (by decide +kernel)
theorem tb_1234 : Cond.code ⟨"MiddleOfCourtModel", "comesTo", "(II)I"⟩ prog_14_method_35_code 5 (some .int) ∈ TBL := TBL_of 1234 (by decide +kernel) (by decide +kernel)
theorem tb_1235 : Cond.methodLink "MiddleOfCourtModel" 249 ⟨"MiddleOfCourtModel", "across", "(I)I"⟩ ∈ TBL := TBL_of 1235 (by decide +kernel) (by decide +kernel)
theorem tb_1236 : Cond.static ⟨"MiddleOfCourtModel", "across", "(I)I"⟩ ∈ TBL := TBL_of 1236 (by decide +kernel) (by decide +kernel)
theorem tb_1237 : Cond.code ⟨"MiddleOfCourtModel", "across", "(I)I"⟩ prog_14_method_34_code 1 (some .int) ∈ TBL := TBL_of 1237 (by decide +kernel) (by decide +kernel)
theorem tb_1238 : Cond.methodLink "MiddleOfCourtModel" 267 ⟨"MiddleOfCourtModel", "tenthsOf", "(II)I"⟩ ∈ TBL := TBL_of 1238 (by decide +kernel) (by decide +kernel)
theorem tb_1240 : Cond.instanceMethod ⟨"MiddleOfCourtModel", "tenthsOf", "(II)I"⟩ ∈ TBL := TBL_of 1240 (by decide +kernel) (by decide +kernel)
theorem tb_1241 : Cond.code ⟨"MiddleOfCourtModel", "tenthsOf", "(II)I"⟩ prog_14_method_36_code 9 (some .int) ∈ TBL := TBL_of 1241 (by decide +kernel) (by decide +kernel)
theorem tb_1242 : Cond.methodLink "MiddleOfCourtModel" 270 ⟨"MiddleOfCourtModel", "slipsOf", "(II)I"⟩ ∈ TBL := TBL_of 1242 (by decide +kernel) (by decide +kernel)
theorem tb_1244 : Cond.instanceMethod ⟨"MiddleOfCourtModel", "slipsOf", "(II)I"⟩ ∈ TBL := TBL_of 1244 (by decide +kernel) (by decide +kernel)
theorem tb_1245 : Cond.code ⟨"MiddleOfCourtModel", "slipsOf", "(II)I"⟩ prog_14_method_37_code 4 (some .int) ∈ TBL := TBL_of 1245 (by decide +kernel) (by decide +kernel)
theorem tb_1246 : Cond.methodLink "MiddleOfCourtModel" 273 ⟨"MiddleOfCourtModel", "spendsOf", "(I)I"⟩ ∈ TBL := TBL_of 1246 (by decide +kernel) (by decide +kernel)
theorem tb_1248 : Cond.instanceMethod ⟨"MiddleOfCourtModel", "spendsOf", "(I)I"⟩ ∈ TBL := TBL_of 1248 (by decide +kernel) (by decide +kernel)
theorem tb_1249 : Cond.code ⟨"MiddleOfCourtModel", "spendsOf", "(I)I"⟩ prog_14_method_38_code 3 (some .int) ∈ TBL := TBL_of 1249 (by decide +kernel) (by decide +kernel)
theorem tb_1250 : Cond.methodLink "MiddleOfCourtLaw" 52 ⟨"MiddleOfCourtModel", "rally", "(II)I"⟩ ∈ TBL := TBL_of 1250 (by decide +kernel) (by decide +kernel)
theorem tb_1251 : Cond.instanceMethod ⟨"MiddleOfCourtModel", "rally", "(II)I"⟩ ∈ TBL := TBL_of 1251 (by decide +kernel) (by decide +kernel)
theorem tb_1252 : Cond.selects "MiddleOfCourtModel" ⟨"MiddleOfCourtModel", "rally", "(II)I"⟩ ⟨"MiddleOfCourtModel", "rally", "(II)I"⟩ ∈ TBL := TBL_of 1252 (by decide +kernel) (by decide +kernel)
theorem tb_1253 : Cond.code ⟨"MiddleOfCourtModel", "rally", "(II)I"⟩ prog_14_method_49_code 5 (some .int) ∈ TBL := TBL_of 1253 (by decide +kernel) (by decide +kernel)
theorem tb_1254 : Cond.methodLink "MiddleOfCourtModel" 309 ⟨"MiddleOfCourtModel", "isSheet", "(I)Z"⟩ ∈ TBL := TBL_of 1254 (by decide +kernel) (by decide +kernel)
theorem tb_1255 : Cond.static ⟨"MiddleOfCourtModel", "isSheet", "(I)Z"⟩ ∈ TBL := TBL_of 1255 (by decide +kernel) (by decide +kernel)
theorem tb_1256 : Cond.code ⟨"MiddleOfCourtModel", "isSheet", "(I)Z"⟩ prog_14_method_71_code 1 (some .boolean) ∈ TBL := TBL_of 1256 (by decide +kernel) (by decide +kernel)
theorem tb_1257 : Cond.constantLong "MiddleOfCourtModel" 370 (3 : Int64) ∈ TBL := TBL_of 1257 (by decide +kernel) (by decide +kernel)
theorem tb_1258 : Cond.methodLink "MiddleOfCourtModel" 312 ⟨"MiddleOfCourtModel", "rallyBad", "(I)I"⟩ ∈ TBL := TBL_of 1258 (by decide +kernel) (by decide +kernel)
theorem tb_1260 : Cond.instanceMethod ⟨"MiddleOfCourtModel", "rallyBad", "(I)I"⟩ ∈ TBL := TBL_of 1260 (by decide +kernel) (by decide +kernel)
theorem tb_1261 : Cond.code ⟨"MiddleOfCourtModel", "rallyBad", "(I)I"⟩ prog_14_method_48_code 3 (some .int) ∈ TBL := TBL_of 1261 (by decide +kernel) (by decide +kernel)
theorem tb_1262 : Cond.methodLink "MiddleOfCourtModel" 315 ⟨"MiddleOfCourtModel", "layAside", "()V"⟩ ∈ TBL := TBL_of 1262 (by decide +kernel) (by decide +kernel)
theorem tb_1264 : Cond.instanceMethod ⟨"MiddleOfCourtModel", "layAside", "()V"⟩ ∈ TBL := TBL_of 1264 (by decide +kernel) (by decide +kernel)
theorem tb_1265 : Cond.code ⟨"MiddleOfCourtModel", "layAside", "()V"⟩ prog_14_method_44_code 2 none ∈ TBL := TBL_of 1265 (by decide +kernel) (by decide +kernel)
theorem tb_1266 : Cond.methodLink "MiddleOfCourtModel" 318 ⟨"MiddleOfCourtModel", "rallies", "(I)V"⟩ ∈ TBL := TBL_of 1266 (by decide +kernel) (by decide +kernel)
theorem tb_1268 : Cond.instanceMethod ⟨"MiddleOfCourtModel", "rallies", "(I)V"⟩ ∈ TBL := TBL_of 1268 (by decide +kernel) (by decide +kernel)
theorem tb_1269 : Cond.code ⟨"MiddleOfCourtModel", "rallies", "(I)V"⟩ prog_14_method_47_code 6 none ∈ TBL := TBL_of 1269 (by decide +kernel) (by decide +kernel)
theorem tb_1270 : Cond.constantLong "MiddleOfCourtModel" 292 (1000000000 : Int64) ∈ TBL := TBL_of 1270 (by decide +kernel) (by decide +kernel)
theorem tb_1271 : Cond.constantLong "MiddleOfCourtModel" 300 (100 : Int64) ∈ TBL := TBL_of 1271 (by decide +kernel) (by decide +kernel)
theorem tb_1272 : Cond.methodLink "MiddleOfCourtModel" 302 ⟨"MiddleOfCourtModel", "strikes", "(II)Z"⟩ ∈ TBL := TBL_of 1272 (by decide +kernel) (by decide +kernel)
theorem tb_1274 : Cond.instanceMethod ⟨"MiddleOfCourtModel", "strikes", "(II)Z"⟩ ∈ TBL := TBL_of 1274 (by decide +kernel) (by decide +kernel)
theorem tb_1275 : Cond.code ⟨"MiddleOfCourtModel", "strikes", "(II)Z"⟩ prog_14_method_43_code 5 (some .boolean) ∈ TBL := TBL_of 1275 (by decide +kernel) (by decide +kernel)
theorem tb_1276 : Cond.methodLink "MiddleOfCourtModel" 279 ⟨"MiddleOfCourtModel", "tire", "(II)V"⟩ ∈ TBL := TBL_of 1276 (by decide +kernel) (by decide +kernel)
theorem tb_1278 : Cond.instanceMethod ⟨"MiddleOfCourtModel", "tire", "(II)V"⟩ ∈ TBL := TBL_of 1278 (by decide +kernel) (by decide +kernel)
theorem tb_1279 : Cond.code ⟨"MiddleOfCourtModel", "tire", "(II)V"⟩ prog_14_method_42_code 3 none ∈ TBL := TBL_of 1279 (by decide +kernel) (by decide +kernel)
theorem tb_1280 : Cond.methodLink "MiddleOfCourtModel" 305 ⟨"MiddleOfCourtModel", "goesOver", "(III)Z"⟩ ∈ TBL := TBL_of 1280 (by decide +kernel) (by decide +kernel)
theorem tb_1281 : Cond.static ⟨"MiddleOfCourtModel", "goesOver", "(III)Z"⟩ ∈ TBL := TBL_of 1281 (by decide +kernel) (by decide +kernel)
theorem tb_1282 : Cond.code ⟨"MiddleOfCourtModel", "goesOver", "(III)Z"⟩ prog_14_method_46_code 6 (some .boolean) ∈ TBL := TBL_of 1282 (by decide +kernel) (by decide +kernel)
theorem tb_1283 : Cond.methodLink "MiddleOfCourtModel" 322 ⟨"MiddleOfCourtModel", "takeBack", "()V"⟩ ∈ TBL := TBL_of 1283 (by decide +kernel) (by decide +kernel)
theorem tb_1285 : Cond.instanceMethod ⟨"MiddleOfCourtModel", "takeBack", "()V"⟩ ∈ TBL := TBL_of 1285 (by decide +kernel) (by decide +kernel)
theorem tb_1286 : Cond.code ⟨"MiddleOfCourtModel", "takeBack", "()V"⟩ prog_14_method_45_code 2 none ∈ TBL := TBL_of 1286 (by decide +kernel) (by decide +kernel)
theorem tb_1287 : Cond.methodLink "MiddleOfCourtLaw" 56 ⟨"MiddleOfCourtModel", "play", "(I)I"⟩ ∈ TBL := TBL_of 1287 (by decide +kernel) (by decide +kernel)
theorem tb_1288 : Cond.instanceMethod ⟨"MiddleOfCourtModel", "play", "(I)I"⟩ ∈ TBL := TBL_of 1288 (by decide +kernel) (by decide +kernel)
theorem tb_1289 : Cond.selects "MiddleOfCourtModel" ⟨"MiddleOfCourtModel", "play", "(I)I"⟩ ⟨"MiddleOfCourtModel", "play", "(I)I"⟩ ∈ TBL := TBL_of 1289 (by decide +kernel) (by decide +kernel)
theorem tb_1290 : Cond.code ⟨"MiddleOfCourtModel", "play", "(I)I"⟩ prog_14_method_50_code 3 (some .int) ∈ TBL := TBL_of 1290 (by decide +kernel) (by decide +kernel)
theorem tb_1291 : Cond.methodLink "MiddleOfCourtLaw" 61 ⟨"MiddleOfCourtModel", "likely", "(I)J"⟩ ∈ TBL := TBL_of 1291 (by decide +kernel) (by decide +kernel)
theorem tb_1292 : Cond.instanceMethod ⟨"MiddleOfCourtModel", "likely", "(I)J"⟩ ∈ TBL := TBL_of 1292 (by decide +kernel) (by decide +kernel)
theorem tb_1293 : Cond.selects "MiddleOfCourtModel" ⟨"MiddleOfCourtModel", "likely", "(I)J"⟩ ⟨"MiddleOfCourtModel", "likely", "(I)J"⟩ ∈ TBL := TBL_of 1293 (by decide +kernel) (by decide +kernel)
theorem tb_1294 : Cond.code ⟨"MiddleOfCourtModel", "likely", "(I)J"⟩ prog_14_method_51_code 2 (some .long) ∈ TBL := TBL_of 1294 (by decide +kernel) (by decide +kernel)
theorem tb_1295 : Cond.constantLong "MiddleOfCourtModel" 325 (-4611686018427387904 : Int64) ∈ TBL := TBL_of 1295 (by decide +kernel) (by decide +kernel)
theorem tb_1296 : Cond.methodLink "MiddleOfCourtLaw" 65 ⟨"MiddleOfCourtModel", "best", "(III)I"⟩ ∈ TBL := TBL_of 1296 (by decide +kernel) (by decide +kernel)
theorem tb_1297 : Cond.instanceMethod ⟨"MiddleOfCourtModel", "best", "(III)I"⟩ ∈ TBL := TBL_of 1297 (by decide +kernel) (by decide +kernel)
theorem tb_1298 : Cond.selects "MiddleOfCourtModel" ⟨"MiddleOfCourtModel", "best", "(III)I"⟩ ⟨"MiddleOfCourtModel", "best", "(III)I"⟩ ∈ TBL := TBL_of 1298 (by decide +kernel) (by decide +kernel)
theorem tb_1299 : Cond.code ⟨"MiddleOfCourtModel", "best", "(III)I"⟩ prog_14_method_53_code 5 (some .int) ∈ TBL := TBL_of 1299 (by decide +kernel) (by decide +kernel)
theorem tb_1300 : Cond.methodLink "MiddleOfCourtModel" 330 ⟨"MiddleOfCourtModel", "valueOf", "(II)I"⟩ ∈ TBL := TBL_of 1300 (by decide +kernel) (by decide +kernel)
theorem tb_1302 : Cond.instanceMethod ⟨"MiddleOfCourtModel", "valueOf", "(II)I"⟩ ∈ TBL := TBL_of 1302 (by decide +kernel) (by decide +kernel)
theorem tb_1303 : Cond.code ⟨"MiddleOfCourtModel", "valueOf", "(II)I"⟩ prog_14_method_52_code 7 (some .int) ∈ TBL := TBL_of 1303 (by decide +kernel) (by decide +kernel)
theorem tb_1304 : Cond.methodLink "MiddleOfCourtLaw" 69 ⟨"MiddleOfCourtModel", "sure", "(I)I"⟩ ∈ TBL := TBL_of 1304 (by decide +kernel) (by decide +kernel)
theorem tb_1305 : Cond.instanceMethod ⟨"MiddleOfCourtModel", "sure", "(I)I"⟩ ∈ TBL := TBL_of 1305 (by decide +kernel) (by decide +kernel)
theorem tb_1306 : Cond.selects "MiddleOfCourtModel" ⟨"MiddleOfCourtModel", "sure", "(I)I"⟩ ⟨"MiddleOfCourtModel", "sure", "(I)I"⟩ ∈ TBL := TBL_of 1306 (by decide +kernel) (by decide +kernel)
theorem tb_1307 : Cond.code ⟨"MiddleOfCourtModel", "sure", "(I)I"⟩ prog_14_method_54_code 3 (some .int) ∈ TBL := TBL_of 1307 (by decide +kernel) (by decide +kernel)
theorem tb_1308 : Cond.methodLink "MiddleOfCourtLaw" 73 ⟨"MiddleOfCourtModel", "stand", "(II)I"⟩ ∈ TBL := TBL_of 1308 (by decide +kernel) (by decide +kernel)
theorem tb_1309 : Cond.instanceMethod ⟨"MiddleOfCourtModel", "stand", "(II)I"⟩ ∈ TBL := TBL_of 1309 (by decide +kernel) (by decide +kernel)
theorem tb_1310 : Cond.selects "MiddleOfCourtModel" ⟨"MiddleOfCourtModel", "stand", "(II)I"⟩ ⟨"MiddleOfCourtModel", "stand", "(II)I"⟩ ∈ TBL := TBL_of 1310 (by decide +kernel) (by decide +kernel)
theorem tb_1311 : Cond.code ⟨"MiddleOfCourtModel", "stand", "(II)I"⟩ prog_14_method_56_code 7 (some .int) ∈ TBL := TBL_of 1311 (by decide +kernel) (by decide +kernel)
theorem tb_1312 : Cond.constant "MiddleOfCourtModel" 333 (-100000 : Int32) ∈ TBL := TBL_of 1312 (by decide +kernel) (by decide +kernel)
theorem tb_1313 : Cond.methodLink "MiddleOfCourtModel" 334 ⟨"MiddleOfCourtModel", "badness", "(II)I"⟩ ∈ TBL := TBL_of 1313 (by decide +kernel) (by decide +kernel)
theorem tb_1315 : Cond.instanceMethod ⟨"MiddleOfCourtModel", "badness", "(II)I"⟩ ∈ TBL := TBL_of 1315 (by decide +kernel) (by decide +kernel)
theorem tb_1316 : Cond.code ⟨"MiddleOfCourtModel", "badness", "(II)I"⟩ prog_14_method_55_code 7 (some .int) ∈ TBL := TBL_of 1316 (by decide +kernel) (by decide +kernel)
theorem tb_1317 : Cond.methodLink "MiddleOfCourtLaw" 77 ⟨"MiddleOfCourtModel", "tires", "(I)I"⟩ ∈ TBL := TBL_of 1317 (by decide +kernel) (by decide +kernel)
theorem tb_1318 : Cond.instanceMethod ⟨"MiddleOfCourtModel", "tires", "(I)I"⟩ ∈ TBL := TBL_of 1318 (by decide +kernel) (by decide +kernel)
theorem tb_1319 : Cond.selects "MiddleOfCourtModel" ⟨"MiddleOfCourtModel", "tires", "(I)I"⟩ ⟨"MiddleOfCourtModel", "tires", "(I)I"⟩ ∈ TBL := TBL_of 1319 (by decide +kernel) (by decide +kernel)
theorem tb_1320 : Cond.code ⟨"MiddleOfCourtModel", "tires", "(I)I"⟩ prog_14_method_57_code 8 (some .int) ∈ TBL := TBL_of 1320 (by decide +kernel) (by decide +kernel)
theorem tb_1321 : Cond.methodLink "MiddleOfCourtLaw" 81 ⟨"MiddleOfCourtModel", "inTheWay", "(I)I"⟩ ∈ TBL := TBL_of 1321 (by decide +kernel) (by decide +kernel)
theorem tb_1322 : Cond.instanceMethod ⟨"MiddleOfCourtModel", "inTheWay", "(I)I"⟩ ∈ TBL := TBL_of 1322 (by decide +kernel) (by decide +kernel)
theorem tb_1323 : Cond.selects "MiddleOfCourtModel" ⟨"MiddleOfCourtModel", "inTheWay", "(I)I"⟩ ⟨"MiddleOfCourtModel", "inTheWay", "(I)I"⟩ ∈ TBL := TBL_of 1323 (by decide +kernel) (by decide +kernel)
theorem tb_1324 : Cond.code ⟨"MiddleOfCourtModel", "inTheWay", "(I)I"⟩ prog_14_method_58_code 3 (some .int) ∈ TBL := TBL_of 1324 (by decide +kernel) (by decide +kernel)
theorem tb_1325 : Cond.methodLink "MiddleOfCourtLaw" 85 ⟨"MiddleOfCourtModel", "balls", "(II)I"⟩ ∈ TBL := TBL_of 1325 (by decide +kernel) (by decide +kernel)
theorem tb_1326 : Cond.instanceMethod ⟨"MiddleOfCourtModel", "balls", "(II)I"⟩ ∈ TBL := TBL_of 1326 (by decide +kernel) (by decide +kernel)
theorem tb_1327 : Cond.selects "MiddleOfCourtModel" ⟨"MiddleOfCourtModel", "balls", "(II)I"⟩ ⟨"MiddleOfCourtModel", "balls", "(II)I"⟩ ∈ TBL := TBL_of 1327 (by decide +kernel) (by decide +kernel)
theorem tb_1328 : Cond.code ⟨"MiddleOfCourtModel", "balls", "(II)I"⟩ prog_14_method_60_code 3 (some .int) ∈ TBL := TBL_of 1328 (by decide +kernel) (by decide +kernel)
theorem tb_1329 : Cond.methodLink "MiddleOfCourtModel" 343 ⟨"MiddleOfCourtModel", "goesOn", "(III)V"⟩ ∈ TBL := TBL_of 1329 (by decide +kernel) (by decide +kernel)
theorem tb_1331 : Cond.instanceMethod ⟨"MiddleOfCourtModel", "goesOn", "(III)V"⟩ ∈ TBL := TBL_of 1331 (by decide +kernel) (by decide +kernel)
theorem tb_1332 : Cond.code ⟨"MiddleOfCourtModel", "goesOn", "(III)V"⟩ prog_14_method_59_code 6 none ∈ TBL := TBL_of 1332 (by decide +kernel) (by decide +kernel)
theorem tb_1333 : Cond.methodLink "MiddleOfCourtLaw" 89 ⟨"MiddleOfCourtModel", "quicks", "(III)I"⟩ ∈ TBL := TBL_of 1333 (by decide +kernel) (by decide +kernel)
theorem tb_1334 : Cond.instanceMethod ⟨"MiddleOfCourtModel", "quicks", "(III)I"⟩ ∈ TBL := TBL_of 1334 (by decide +kernel) (by decide +kernel)
theorem tb_1335 : Cond.selects "MiddleOfCourtModel" ⟨"MiddleOfCourtModel", "quicks", "(III)I"⟩ ⟨"MiddleOfCourtModel", "quicks", "(III)I"⟩ ∈ TBL := TBL_of 1335 (by decide +kernel) (by decide +kernel)
theorem tb_1336 : Cond.code ⟨"MiddleOfCourtModel", "quicks", "(III)I"⟩ prog_14_method_62_code 8 (some .int) ∈ TBL := TBL_of 1336 (by decide +kernel) (by decide +kernel)
theorem tb_1337 : Cond.constantLong "MiddleOfCourtModel" 347 (2 : Int64) ∈ TBL := TBL_of 1337 (by decide +kernel) (by decide +kernel)
theorem tb_1338 : Cond.methodLink "MiddleOfCourtModel" 349 ⟨"MiddleOfCourtModel", "tries", "(II)V"⟩ ∈ TBL := TBL_of 1338 (by decide +kernel) (by decide +kernel)
theorem tb_1340 : Cond.instanceMethod ⟨"MiddleOfCourtModel", "tries", "(II)V"⟩ ∈ TBL := TBL_of 1340 (by decide +kernel) (by decide +kernel)
theorem tb_1341 : Cond.code ⟨"MiddleOfCourtModel", "tries", "(II)V"⟩ prog_14_method_63_code 3 none ∈ TBL := TBL_of 1341 (by decide +kernel) (by decide +kernel)
theorem tb_1342 : Cond.methodLink "MiddleOfCourtModel" 352 ⟨"MiddleOfCourtModel", "winsSo", "(II)Z"⟩ ∈ TBL := TBL_of 1342 (by decide +kernel) (by decide +kernel)
theorem tb_1344 : Cond.instanceMethod ⟨"MiddleOfCourtModel", "winsSo", "(II)Z"⟩ ∈ TBL := TBL_of 1344 (by decide +kernel) (by decide +kernel)
theorem tb_1345 : Cond.code ⟨"MiddleOfCourtModel", "winsSo", "(II)Z"⟩ prog_14_method_61_code 3 (some .boolean) ∈ TBL := TBL_of 1345 (by decide +kernel) (by decide +kernel)
theorem tb_1346 : Cond.methodLink "MiddleOfCourtLaw" 93 ⟨"MiddleOfCourtModel", "film", "(II)I"⟩ ∈ TBL := TBL_of 1346 (by decide +kernel) (by decide +kernel)
theorem tb_1347 : Cond.instanceMethod ⟨"MiddleOfCourtModel", "film", "(II)I"⟩ ∈ TBL := TBL_of 1347 (by decide +kernel) (by decide +kernel)
theorem tb_1348 : Cond.selects "MiddleOfCourtModel" ⟨"MiddleOfCourtModel", "film", "(II)I"⟩ ⟨"MiddleOfCourtModel", "film", "(II)I"⟩ ∈ TBL := TBL_of 1348 (by decide +kernel) (by decide +kernel)
theorem tb_1349 : Cond.code ⟨"MiddleOfCourtModel", "film", "(II)I"⟩ prog_14_method_64_code 5 (some .int) ∈ TBL := TBL_of 1349 (by decide +kernel) (by decide +kernel)
theorem tb_1350 : Cond.methodLink "MiddleOfCourtModel" 355 ⟨"MiddleOfCourtModel", "sheet", "(III)I"⟩ ∈ TBL := TBL_of 1350 (by decide +kernel) (by decide +kernel)
theorem tb_1351 : Cond.instanceMethod ⟨"MiddleOfCourtModel", "sheet", "(III)I"⟩ ∈ TBL := TBL_of 1351 (by decide +kernel) (by decide +kernel)
theorem tb_1352 : Cond.selects "MiddleOfCourtModel" ⟨"MiddleOfCourtModel", "sheet", "(III)I"⟩ ⟨"MiddleOfCourtModel", "sheet", "(III)I"⟩ ∈ TBL := TBL_of 1352 (by decide +kernel) (by decide +kernel)
theorem tb_1353 : Cond.code ⟨"MiddleOfCourtModel", "sheet", "(III)I"⟩ prog_14_method_72_code 5 (some .int) ∈ TBL := TBL_of 1353 (by decide +kernel) (by decide +kernel)
theorem tb_1354 : Cond.methodLink "MiddleOfCourtLaw" 97 ⟨"MiddleOfCourtModel", "drawn", "(I)I"⟩ ∈ TBL := TBL_of 1354 (by decide +kernel) (by decide +kernel)
theorem tb_1355 : Cond.instanceMethod ⟨"MiddleOfCourtModel", "drawn", "(I)I"⟩ ∈ TBL := TBL_of 1355 (by decide +kernel) (by decide +kernel)
theorem tb_1356 : Cond.selects "MiddleOfCourtModel" ⟨"MiddleOfCourtModel", "drawn", "(I)I"⟩ ⟨"MiddleOfCourtModel", "drawn", "(I)I"⟩ ∈ TBL := TBL_of 1356 (by decide +kernel) (by decide +kernel)
theorem tb_1357 : Cond.code ⟨"MiddleOfCourtModel", "drawn", "(I)I"⟩ prog_14_method_66_code 2 (some .int) ∈ TBL := TBL_of 1357 (by decide +kernel) (by decide +kernel)
theorem tb_1358 : Cond.methodLink "MiddleOfCourtModel" 359 ⟨"MiddleOfCourtModel", "draws", "(I)I"⟩ ∈ TBL := TBL_of 1358 (by decide +kernel) (by decide +kernel)
theorem tb_1360 : Cond.instanceMethod ⟨"MiddleOfCourtModel", "draws", "(I)I"⟩ ∈ TBL := TBL_of 1360 (by decide +kernel) (by decide +kernel)
theorem tb_1361 : Cond.code ⟨"MiddleOfCourtModel", "draws", "(I)I"⟩ prog_14_method_65_code 5 (some .int) ∈ TBL := TBL_of 1361 (by decide +kernel) (by decide +kernel)
theorem tb_1362 : Cond.constant "MiddleOfCourtModel" 358 (1103515245 : Int32) ∈ TBL := TBL_of 1362 (by decide +kernel) (by decide +kernel)
theorem tb_1363 : Cond.methodLink "MiddleOfCourtLaw" 102 ⟨"MiddleOfCourtModel", "chance", "(III)J"⟩ ∈ TBL := TBL_of 1363 (by decide +kernel) (by decide +kernel)
theorem tb_1364 : Cond.instanceMethod ⟨"MiddleOfCourtModel", "chance", "(III)J"⟩ ∈ TBL := TBL_of 1364 (by decide +kernel) (by decide +kernel)
theorem tb_1365 : Cond.selects "MiddleOfCourtModel" ⟨"MiddleOfCourtModel", "chance", "(III)J"⟩ ⟨"MiddleOfCourtModel", "chance", "(III)J"⟩ ∈ TBL := TBL_of 1365 (by decide +kernel) (by decide +kernel)
theorem tb_1366 : Cond.code ⟨"MiddleOfCourtModel", "chance", "(III)J"⟩ prog_14_method_67_code 12 (some .long) ∈ TBL := TBL_of 1366 (by decide +kernel) (by decide +kernel)
theorem tb_1367 : Cond.constantLong "MiddleOfCourtModel" 362 (20 : Int64) ∈ TBL := TBL_of 1367 (by decide +kernel) (by decide +kernel)
theorem tb_1368 : Cond.methodLink "MiddleOfCourtLaw" 106 ⟨"MiddleOfCourtModel", "image", "()I"⟩ ∈ TBL := TBL_of 1368 (by decide +kernel) (by decide +kernel)
theorem tb_1369 : Cond.instanceMethod ⟨"MiddleOfCourtModel", "image", "()I"⟩ ∈ TBL := TBL_of 1369 (by decide +kernel) (by decide +kernel)
theorem tb_1370 : Cond.selects "MiddleOfCourtModel" ⟨"MiddleOfCourtModel", "image", "()I"⟩ ⟨"MiddleOfCourtModel", "image", "()I"⟩ ∈ TBL := TBL_of 1370 (by decide +kernel) (by decide +kernel)
theorem tb_1371 : Cond.code ⟨"MiddleOfCourtModel", "image", "()I"⟩ prog_14_method_68_code 2 (some .int) ∈ TBL := TBL_of 1371 (by decide +kernel) (by decide +kernel)
theorem tb_1372 : Cond.methodLink "MiddleOfCourtLaw" 110 ⟨"MiddleOfCourtModel", "back", "()I"⟩ ∈ TBL := TBL_of 1372 (by decide +kernel) (by decide +kernel)
theorem tb_1373 : Cond.instanceMethod ⟨"MiddleOfCourtModel", "back", "()I"⟩ ∈ TBL := TBL_of 1373 (by decide +kernel) (by decide +kernel)
theorem tb_1374 : Cond.selects "MiddleOfCourtModel" ⟨"MiddleOfCourtModel", "back", "()I"⟩ ⟨"MiddleOfCourtModel", "back", "()I"⟩ ∈ TBL := TBL_of 1374 (by decide +kernel) (by decide +kernel)
theorem tb_1375 : Cond.code ⟨"MiddleOfCourtModel", "back", "()I"⟩ prog_14_method_69_code 2 (some .int) ∈ TBL := TBL_of 1375 (by decide +kernel) (by decide +kernel)
theorem tb_1376 : Cond.methodLink "MiddleOfCourtLaw" 114 ⟨"MiddleOfCourtModel", "count", "(I)I"⟩ ∈ TBL := TBL_of 1376 (by decide +kernel) (by decide +kernel)
theorem tb_1377 : Cond.instanceMethod ⟨"MiddleOfCourtModel", "count", "(I)I"⟩ ∈ TBL := TBL_of 1377 (by decide +kernel) (by decide +kernel)
theorem tb_1378 : Cond.selects "MiddleOfCourtModel" ⟨"MiddleOfCourtModel", "count", "(I)I"⟩ ⟨"MiddleOfCourtModel", "count", "(I)I"⟩ ∈ TBL := TBL_of 1378 (by decide +kernel) (by decide +kernel)
theorem tb_1379 : Cond.code ⟨"MiddleOfCourtModel", "count", "(I)I"⟩ prog_14_method_70_code 2 (some .int) ∈ TBL := TBL_of 1379 (by decide +kernel) (by decide +kernel)
theorem tb_1380 : Cond.methodLink "MiddleOfCourtLaw" 118 ⟨"MiddleOfCourtModel", "sheet", "(III)I"⟩ ∈ TBL := TBL_of 1380 (by decide +kernel) (by decide +kernel)
theorem tb_1381 : Cond.methodLink "MiddleOfCourtLaw" 122 ⟨"MiddleOfCourtModel", "cell", "(III)I"⟩ ∈ TBL := TBL_of 1381 (by decide +kernel) (by decide +kernel)
theorem tb_1382 : Cond.instanceMethod ⟨"MiddleOfCourtModel", "cell", "(III)I"⟩ ∈ TBL := TBL_of 1382 (by decide +kernel) (by decide +kernel)
theorem tb_1383 : Cond.selects "MiddleOfCourtModel" ⟨"MiddleOfCourtModel", "cell", "(III)I"⟩ ⟨"MiddleOfCourtModel", "cell", "(III)I"⟩ ∈ TBL := TBL_of 1383 (by decide +kernel) (by decide +kernel)
theorem tb_1384 : Cond.code ⟨"MiddleOfCourtModel", "cell", "(III)I"⟩ prog_14_method_73_code 4 (some .int) ∈ TBL := TBL_of 1384 (by decide +kernel) (by decide +kernel)
theorem tb_1385 : Cond.methodLink "MiddleOfCourtLaw" 127 ⟨"MiddleOfCourtModel", "copy", "(IIIII)I"⟩ ∈ TBL := TBL_of 1385 (by decide +kernel) (by decide +kernel)
theorem tb_1386 : Cond.instanceMethod ⟨"MiddleOfCourtModel", "copy", "(IIIII)I"⟩ ∈ TBL := TBL_of 1386 (by decide +kernel) (by decide +kernel)
theorem tb_1387 : Cond.selects "MiddleOfCourtModel" ⟨"MiddleOfCourtModel", "copy", "(IIIII)I"⟩ ⟨"MiddleOfCourtModel", "copy", "(IIIII)I"⟩ ∈ TBL := TBL_of 1387 (by decide +kernel) (by decide +kernel)
theorem tb_1388 : Cond.code ⟨"MiddleOfCourtModel", "copy", "(IIIII)I"⟩ prog_14_method_74_code 9 (some .int) ∈ TBL := TBL_of 1388 (by decide +kernel) (by decide +kernel)
theorem tb_1389 : Cond.methodLink "MiddleOfCourtLaw" 132 ⟨"MiddleOfCourtModel", "strokes", "(IIII)I"⟩ ∈ TBL := TBL_of 1389 (by decide +kernel) (by decide +kernel)
theorem tb_1390 : Cond.instanceMethod ⟨"MiddleOfCourtModel", "strokes", "(IIII)I"⟩ ∈ TBL := TBL_of 1390 (by decide +kernel) (by decide +kernel)
theorem tb_1391 : Cond.selects "MiddleOfCourtModel" ⟨"MiddleOfCourtModel", "strokes", "(IIII)I"⟩ ⟨"MiddleOfCourtModel", "strokes", "(IIII)I"⟩ ∈ TBL := TBL_of 1391 (by decide +kernel) (by decide +kernel)
theorem tb_1392 : Cond.code ⟨"MiddleOfCourtModel", "strokes", "(IIII)I"⟩ prog_14_method_75_code 8 (some .int) ∈ TBL := TBL_of 1392 (by decide +kernel) (by decide +kernel)
theorem tb_1393 : Cond.methodLink "MiddleOfCourtModel" 372 ⟨"MiddleOfCourtModel", "stroke", "(III)I"⟩ ∈ TBL := TBL_of 1393 (by decide +kernel) (by decide +kernel)
theorem tb_1394 : Cond.methodLink "MiddleOfCourtLaw" 136 ⟨"MiddleOfCourtModel", "taken", "(II)I"⟩ ∈ TBL := TBL_of 1394 (by decide +kernel) (by decide +kernel)
theorem tb_1395 : Cond.instanceMethod ⟨"MiddleOfCourtModel", "taken", "(II)I"⟩ ∈ TBL := TBL_of 1395 (by decide +kernel) (by decide +kernel)
theorem tb_1396 : Cond.selects "MiddleOfCourtModel" ⟨"MiddleOfCourtModel", "taken", "(II)I"⟩ ⟨"MiddleOfCourtModel", "taken", "(II)I"⟩ ∈ TBL := TBL_of 1396 (by decide +kernel) (by decide +kernel)
theorem tb_1397 : Cond.code ⟨"MiddleOfCourtModel", "taken", "(II)I"⟩ prog_14_method_77_code 4 (some .int) ∈ TBL := TBL_of 1397 (by decide +kernel) (by decide +kernel)
theorem tb_1398 : Cond.methodLink "MiddleOfCourtModel" 375 ⟨"MiddleOfCourtModel", "over", "(I)I"⟩ ∈ TBL := TBL_of 1398 (by decide +kernel) (by decide +kernel)
theorem tb_1399 : Cond.static ⟨"MiddleOfCourtModel", "over", "(I)I"⟩ ∈ TBL := TBL_of 1399 (by decide +kernel) (by decide +kernel)
theorem tb_1400 : Cond.code ⟨"MiddleOfCourtModel", "over", "(I)I"⟩ prog_14_method_76_code 1 (some .int) ∈ TBL := TBL_of 1400 (by decide +kernel) (by decide +kernel)
theorem tb_1401 : Cond.sameMethod "MiddleOfCourt$Drop" "MiddleOfCourt$Drop" "flight" "(II)I" ∈ TBL := TBL_of 1401 (by decide +kernel) (by decide +kernel)
theorem tb_1402 : Cond.sameMethod "MiddleOfCourt$Length" "MiddleOfCourt$Length" "flight" "(II)I" ∈ TBL := TBL_of 1402 (by decide +kernel) (by decide +kernel)
theorem tb_1411 : Cond.fieldLink "java/lang/String" 9 "java/lang/String" "value" "[B" ∈ TBL := TBL_of 1411 (by decide +kernel) (by decide +kernel)
theorem tb_1412 : Cond.fieldLink "java/lang/String" 15 "java/lang/String" "coder" "B" ∈ TBL := TBL_of 1412 (by decide +kernel) (by decide +kernel)
end
section
theorem dX0_init_0 : decode cX0_init 0 = .ok (.aload_n 0, 1) := by decide +kernel
theorem dX0_init_1 : decode cX0_init 1 = .ok (.iload_n 1, 1) := by decide +kernel
theorem dX0_init_2 : decode cX0_init 2 = .ok (.iload_n 2, 1) := by decide +kernel
theorem dX0_init_3 : decode cX0_init 3 = .ok (.invokespecial 3, 3) := by decide +kernel
theorem dX0_init_6 : decode cX0_init 6 = .ok (.return_, 1) := by decide +kernel
theorem dX0_kind_0 : decode cX0_kind 0 = .ok (.iconst 4, 1) := by decide +kernel
theorem dX0_kind_1 : decode cX0_kind 1 = .ok (.ireturn, 1) := by decide +kernel
theorem dX0_comes_0 : decode cX0_comes 0 = .ok (.aload_n 0, 1) := by decide +kernel
theorem dX0_comes_1 : decode cX0_comes 1 = .ok (.getfield 9, 3) := by decide +kernel
theorem dX0_comes_4 : decode cX0_comes 4 = .ok (.invokestatic 15, 3) := by decide +kernel
theorem dX0_comes_7 : decode cX0_comes 7 = .ok (.ireturn, 1) := by decide +kernel
theorem dX0_flight_0 : decode cX0_flight 0 = .ok (.aload_n 0, 1) := by decide +kernel
theorem dX0_flight_1 : decode cX0_flight 1 = .ok (.iload_n 1, 1) := by decide +kernel
theorem dX0_flight_2 : decode cX0_flight 2 = .ok (.iload_n 2, 1) := by decide +kernel
theorem dX0_flight_3 : decode cX0_flight 3 = .ok (.invokespecial 19, 3) := by decide +kernel
theorem dX0_flight_6 : decode cX0_flight 6 = .ok (.iconst 3, 1) := by decide +kernel
theorem dX0_flight_7 : decode cX0_flight 7 = .ok (.iadd, 1) := by decide +kernel
theorem dX0_flight_8 : decode cX0_flight 8 = .ok (.ireturn, 1) := by decide +kernel
theorem dX1_init_0 : decode cX1_init 0 = .ok (.aload_n 0, 1) := by decide +kernel
theorem dX1_init_1 : decode cX1_init 1 = .ok (.invokespecial 3, 3) := by decide +kernel
theorem dX1_init_4 : decode cX1_init 4 = .ok (.aload_n 0, 1) := by decide +kernel
theorem dX1_init_5 : decode cX1_init 5 = .ok (.new 9, 3) := by decide +kernel
theorem dX1_init_8 : decode cX1_init 8 = .ok (.dup, 1) := by decide +kernel
theorem dX1_init_9 : decode cX1_init 9 = .ok (.invokespecial 11, 3) := by decide +kernel
theorem dX1_init_12 : decode cX1_init 12 = .ok (.putfield 12, 3) := by decide +kernel
theorem dX1_init_15 : decode cX1_init 15 = .ok (.aload_n 0, 1) := by decide +kernel
theorem dX1_init_16 : decode cX1_init 16 = .ok (.new 9, 3) := by decide +kernel
theorem dX1_init_19 : decode cX1_init 19 = .ok (.dup, 1) := by decide +kernel
theorem dX1_init_20 : decode cX1_init 20 = .ok (.invokespecial 11, 3) := by decide +kernel
theorem dX1_init_23 : decode cX1_init 23 = .ok (.putfield 18, 3) := by decide +kernel
theorem dX1_init_26 : decode cX1_init 26 = .ok (.aload_n 0, 1) := by decide +kernel
theorem dX1_init_27 : decode cX1_init 27 = .ok (.iconst 0, 1) := by decide +kernel
theorem dX1_init_28 : decode cX1_init 28 = .ok (.putfield 21, 3) := by decide +kernel
theorem dX1_init_31 : decode cX1_init 31 = .ok (.aload_n 0, 1) := by decide +kernel
theorem dX1_init_32 : decode cX1_init 32 = .ok (.aload_n 1, 1) := by decide +kernel
theorem dX1_init_33 : decode cX1_init 33 = .ok (.putfield 25, 3) := by decide +kernel
theorem dX1_init_36 : decode cX1_init 36 = .ok (.return_, 1) := by decide +kernel
theorem dX1_take_0 : decode cX1_take 0 = .ok (.aload_n 0, 1) := by decide +kernel
theorem dX1_take_1 : decode cX1_take 1 = .ok (.getfield 12, 3) := by decide +kernel
theorem dX1_take_4 : decode cX1_take 4 = .ok (.aload_n 1, 1) := by decide +kernel
theorem dX1_take_5 : decode cX1_take 5 = .ok (.getfield 12, 3) := by decide +kernel
theorem dX1_take_8 : decode cX1_take 8 = .ok (.invokevirtual 29, 3) := by decide +kernel
theorem dX1_take_11 : decode cX1_take 11 = .ok (.aload_n 0, 1) := by decide +kernel
theorem dX1_take_12 : decode cX1_take 12 = .ok (.getfield 18, 3) := by decide +kernel
theorem dX1_take_15 : decode cX1_take 15 = .ok (.aload_n 1, 1) := by decide +kernel
theorem dX1_take_16 : decode cX1_take 16 = .ok (.getfield 18, 3) := by decide +kernel
theorem dX1_take_19 : decode cX1_take 19 = .ok (.invokevirtual 29, 3) := by decide +kernel
theorem dX1_take_22 : decode cX1_take 22 = .ok (.aload_n 0, 1) := by decide +kernel
theorem dX1_take_23 : decode cX1_take 23 = .ok (.aload_n 1, 1) := by decide +kernel
theorem dX1_take_24 : decode cX1_take 24 = .ok (.getfield 21, 3) := by decide +kernel
theorem dX1_take_27 : decode cX1_take 27 = .ok (.putfield 21, 3) := by decide +kernel
theorem dX1_take_30 : decode cX1_take 30 = .ok (.aload_n 0, 1) := by decide +kernel
theorem dX1_take_31 : decode cX1_take 31 = .ok (.aload_n 1, 1) := by decide +kernel
theorem dX1_take_32 : decode cX1_take 32 = .ok (.getfield 25, 3) := by decide +kernel
theorem dX1_take_35 : decode cX1_take 35 = .ok (.putfield 25, 3) := by decide +kernel
theorem dX1_take_38 : decode cX1_take 38 = .ok (.return_, 1) := by decide +kernel
theorem dX1_one_0 : decode cX1_one 0 = .ok (.iload_n 1, 1) := by decide +kernel
theorem dX1_one_1 : decode cX1_one 1 = .ok (.ifCond .ne 10, 3) := by decide +kernel
theorem dX1_one_4 : decode cX1_one 4 = .ok (.aload_n 0, 1) := by decide +kernel
theorem dX1_one_5 : decode cX1_one 5 = .ok (.getfield 12, 3) := by decide +kernel
theorem dX1_one_8 : decode cX1_one 8 = .ok (.goto 7, 3) := by decide +kernel
theorem dX1_one_11 : decode cX1_one 11 = .ok (.aload_n 0, 1) := by decide +kernel
theorem dX1_one_12 : decode cX1_one 12 = .ok (.getfield 18, 3) := by decide +kernel
theorem dX1_one_15 : decode cX1_one 15 = .ok (.areturn, 1) := by decide +kernel
theorem dX1_needsOf_0 : decode cX1_needsOf 0 = .ok (.iload_n 2, 1) := by decide +kernel
theorem dX1_needsOf_1 : decode cX1_needsOf 1 = .ok (.iload_n 3, 1) := by decide +kernel
theorem dX1_needsOf_2 : decode cX1_needsOf 2 = .ok (.invokestatic 33, 3) := by decide +kernel
theorem dX1_needsOf_5 : decode cX1_needsOf 5 = .ok (.istore 4, 2) := by decide +kernel
theorem dX1_needsOf_7 : decode cX1_needsOf 7 = .ok (.iload 4, 2) := by decide +kernel
theorem dX1_needsOf_9 : decode cX1_needsOf 9 = .ok (.ifCond .ne 5, 3) := by decide +kernel
theorem dX1_needsOf_12 : decode cX1_needsOf 12 = .ok (.iconst 0, 1) := by decide +kernel
theorem dX1_needsOf_13 : decode cX1_needsOf 13 = .ok (.ireturn, 1) := by decide +kernel
theorem dX1_needsOf_14 : decode cX1_needsOf 14 = .ok (.iload 4, 2) := by decide +kernel
theorem dX1_needsOf_16 : decode cX1_needsOf 16 = .ok (.aload_n 0, 1) := by decide +kernel
theorem dX1_needsOf_17 : decode cX1_needsOf 17 = .ok (.getfield 25, 3) := by decide +kernel
theorem dX1_needsOf_20 : decode cX1_needsOf 20 = .ok (.iconst 1, 1) := by decide +kernel
theorem dX1_needsOf_21 : decode cX1_needsOf 21 = .ok (.aload_n 1, 1) := by decide +kernel
theorem dX1_needsOf_22 : decode cX1_needsOf 22 = .ok (.aload_n 0, 1) := by decide +kernel
theorem dX1_needsOf_23 : decode cX1_needsOf 23 = .ok (.getfield 21, 3) := by decide +kernel
theorem dX1_needsOf_26 : decode cX1_needsOf 26 = .ok (.iload 4, 2) := by decide +kernel
theorem dX1_needsOf_28 : decode cX1_needsOf 28 = .ok (.iconst 0, 1) := by decide +kernel
theorem dX1_needsOf_29 : decode cX1_needsOf 29 = .ok (.iload_n 2, 1) := by decide +kernel
theorem dX1_needsOf_30 : decode cX1_needsOf 30 = .ok (.invokevirtual 39, 3) := by decide +kernel
theorem dX1_needsOf_33 : decode cX1_needsOf 33 = .ok (.bipush 99, 2) := by decide +kernel
theorem dX1_needsOf_35 : decode cX1_needsOf 35 = .ok (.invokestatic 43, 3) := by decide +kernel
theorem dX1_needsOf_38 : decode cX1_needsOf 38 = .ok (.imul, 1) := by decide +kernel
theorem dX1_needsOf_39 : decode cX1_needsOf 39 = .ok (.ireturn, 1) := by decide +kernel
theorem dX1_tenthsOf_0 : decode cX1_tenthsOf 0 = .ok (.aload_n 2, 1) := by decide +kernel
theorem dX1_tenthsOf_1 : decode cX1_tenthsOf 1 = .ok (.aload_n 1, 1) := by decide +kernel
theorem dX1_tenthsOf_2 : decode cX1_tenthsOf 2 = .ok (.getfield 46, 3) := by decide +kernel
theorem dX1_tenthsOf_5 : decode cX1_tenthsOf 5 = .ok (.invokevirtual 49, 3) := by decide +kernel
theorem dX1_tenthsOf_8 : decode cX1_tenthsOf 8 = .ok (.istore_n 3, 1) := by decide +kernel
theorem dX1_tenthsOf_9 : decode cX1_tenthsOf 9 = .ok (.aload_n 1, 1) := by decide +kernel
theorem dX1_tenthsOf_10 : decode cX1_tenthsOf 10 = .ok (.getfield 46, 3) := by decide +kernel
theorem dX1_tenthsOf_13 : decode cX1_tenthsOf 13 = .ok (.iload_n 3, 1) := by decide +kernel
theorem dX1_tenthsOf_14 : decode cX1_tenthsOf 14 = .ok (.invokestatic 33, 3) := by decide +kernel
theorem dX1_tenthsOf_17 : decode cX1_tenthsOf 17 = .ok (.istore 4, 2) := by decide +kernel
theorem dX1_tenthsOf_19 : decode cX1_tenthsOf 19 = .ok (.aload_n 0, 1) := by decide +kernel
theorem dX1_tenthsOf_20 : decode cX1_tenthsOf 20 = .ok (.getfield 25, 3) := by decide +kernel
theorem dX1_tenthsOf_23 : decode cX1_tenthsOf 23 = .ok (.iconst 0, 1) := by decide +kernel
theorem dX1_tenthsOf_24 : decode cX1_tenthsOf 24 = .ok (.aload_n 1, 1) := by decide +kernel
theorem dX1_tenthsOf_25 : decode cX1_tenthsOf 25 = .ok (.aload_n 0, 1) := by decide +kernel
theorem dX1_tenthsOf_26 : decode cX1_tenthsOf 26 = .ok (.getfield 21, 3) := by decide +kernel
theorem dX1_tenthsOf_29 : decode cX1_tenthsOf 29 = .ok (.iload 4, 2) := by decide +kernel
theorem dX1_tenthsOf_31 : decode cX1_tenthsOf 31 = .ok (.aload_n 2, 1) := by decide +kernel
theorem dX1_tenthsOf_32 : decode cX1_tenthsOf 32 = .ok (.getfield 55, 3) := by decide +kernel
theorem dX1_tenthsOf_35 : decode cX1_tenthsOf 35 = .ok (.iload_n 3, 1) := by decide +kernel
theorem dX1_tenthsOf_36 : decode cX1_tenthsOf 36 = .ok (.invokevirtual 39, 3) := by decide +kernel
theorem dX1_tenthsOf_39 : decode cX1_tenthsOf 39 = .ok (.istore 5, 2) := by decide +kernel
theorem dX1_tenthsOf_41 : decode cX1_tenthsOf 41 = .ok (.iconst 0, 1) := by decide +kernel
theorem dX1_tenthsOf_42 : decode cX1_tenthsOf 42 = .ok (.aload_n 2, 1) := by decide +kernel
theorem dX1_tenthsOf_43 : decode cX1_tenthsOf 43 = .ok (.iload 5, 2) := by decide +kernel
theorem dX1_tenthsOf_45 : decode cX1_tenthsOf 45 = .ok (.bipush 99, 2) := by decide +kernel
theorem dX1_tenthsOf_47 : decode cX1_tenthsOf 47 = .ok (.invokestatic 43, 3) := by decide +kernel
theorem dX1_tenthsOf_50 : decode cX1_tenthsOf 50 = .ok (.aload_n 0, 1) := by decide +kernel
theorem dX1_tenthsOf_51 : decode cX1_tenthsOf 51 = .ok (.getfield 21, 3) := by decide +kernel
theorem dX1_tenthsOf_54 : decode cX1_tenthsOf 54 = .ok (.invokevirtual 58, 3) := by decide +kernel
theorem dX1_tenthsOf_57 : decode cX1_tenthsOf 57 = .ok (.invokestatic 61, 3) := by decide +kernel
theorem dX1_tenthsOf_60 : decode cX1_tenthsOf 60 = .ok (.ireturn, 1) := by decide +kernel
theorem dX1_slipsOf_0 : decode cX1_slipsOf 0 = .ok (.aload_n 2, 1) := by decide +kernel
theorem dX1_slipsOf_1 : decode cX1_slipsOf 1 = .ok (.aload_n 1, 1) := by decide +kernel
theorem dX1_slipsOf_2 : decode cX1_slipsOf 2 = .ok (.getfield 46, 3) := by decide +kernel
theorem dX1_slipsOf_5 : decode cX1_slipsOf 5 = .ok (.invokevirtual 49, 3) := by decide +kernel
theorem dX1_slipsOf_8 : decode cX1_slipsOf 8 = .ok (.istore_n 3, 1) := by decide +kernel
theorem dX1_slipsOf_9 : decode cX1_slipsOf 9 = .ok (.aload_n 1, 1) := by decide +kernel
theorem dX1_slipsOf_10 : decode cX1_slipsOf 10 = .ok (.getfield 46, 3) := by decide +kernel
theorem dX1_slipsOf_13 : decode cX1_slipsOf 13 = .ok (.iload_n 3, 1) := by decide +kernel
theorem dX1_slipsOf_14 : decode cX1_slipsOf 14 = .ok (.invokestatic 33, 3) := by decide +kernel
theorem dX1_slipsOf_17 : decode cX1_slipsOf 17 = .ok (.istore 4, 2) := by decide +kernel
theorem dX1_slipsOf_19 : decode cX1_slipsOf 19 = .ok (.aload_n 0, 1) := by decide +kernel
theorem dX1_slipsOf_20 : decode cX1_slipsOf 20 = .ok (.getfield 25, 3) := by decide +kernel
theorem dX1_slipsOf_23 : decode cX1_slipsOf 23 = .ok (.iconst 2, 1) := by decide +kernel
theorem dX1_slipsOf_24 : decode cX1_slipsOf 24 = .ok (.aload_n 1, 1) := by decide +kernel
theorem dX1_slipsOf_25 : decode cX1_slipsOf 25 = .ok (.aload_n 0, 1) := by decide +kernel
theorem dX1_slipsOf_26 : decode cX1_slipsOf 26 = .ok (.getfield 21, 3) := by decide +kernel
theorem dX1_slipsOf_29 : decode cX1_slipsOf 29 = .ok (.iload 4, 2) := by decide +kernel
theorem dX1_slipsOf_31 : decode cX1_slipsOf 31 = .ok (.aload_n 2, 1) := by decide +kernel
theorem dX1_slipsOf_32 : decode cX1_slipsOf 32 = .ok (.getfield 55, 3) := by decide +kernel
theorem dX1_slipsOf_35 : decode cX1_slipsOf 35 = .ok (.iload_n 3, 1) := by decide +kernel
theorem dX1_slipsOf_36 : decode cX1_slipsOf 36 = .ok (.invokevirtual 39, 3) := by decide +kernel
theorem dX1_slipsOf_39 : decode cX1_slipsOf 39 = .ok (.bipush 100, 2) := by decide +kernel
theorem dX1_slipsOf_41 : decode cX1_slipsOf 41 = .ok (.invokestatic 43, 3) := by decide +kernel
theorem dX1_slipsOf_44 : decode cX1_slipsOf 44 = .ok (.ireturn, 1) := by decide +kernel
theorem dX1_wouldWin_0 : decode cX1_wouldWin 0 = .ok (.aload_n 0, 1) := by decide +kernel
theorem dX1_wouldWin_1 : decode cX1_wouldWin 1 = .ok (.iload_n 1, 1) := by decide +kernel
theorem dX1_wouldWin_2 : decode cX1_wouldWin 2 = .ok (.invokevirtual 66, 3) := by decide +kernel
theorem dX1_wouldWin_5 : decode cX1_wouldWin 5 = .ok (.astore_n 3, 1) := by decide +kernel
theorem dX1_wouldWin_6 : decode cX1_wouldWin 6 = .ok (.aload_n 0, 1) := by decide +kernel
theorem dX1_wouldWin_7 : decode cX1_wouldWin 7 = .ok (.iconst 1, 1) := by decide +kernel
theorem dX1_wouldWin_8 : decode cX1_wouldWin 8 = .ok (.iload_n 1, 1) := by decide +kernel
theorem dX1_wouldWin_9 : decode cX1_wouldWin 9 = .ok (.isub, 1) := by decide +kernel
theorem dX1_wouldWin_10 : decode cX1_wouldWin 10 = .ok (.invokevirtual 66, 3) := by decide +kernel
theorem dX1_wouldWin_13 : decode cX1_wouldWin 13 = .ok (.astore 4, 2) := by decide +kernel
theorem dX1_wouldWin_15 : decode cX1_wouldWin 15 = .ok (.aload_n 0, 1) := by decide +kernel
theorem dX1_wouldWin_16 : decode cX1_wouldWin 16 = .ok (.aload 4, 2) := by decide +kernel
theorem dX1_wouldWin_18 : decode cX1_wouldWin 18 = .ok (.aload 4, 2) := by decide +kernel
theorem dX1_wouldWin_20 : decode cX1_wouldWin 20 = .ok (.getfield 46, 3) := by decide +kernel
theorem dX1_wouldWin_23 : decode cX1_wouldWin 23 = .ok (.aload_n 2, 1) := by decide +kernel
theorem dX1_wouldWin_24 : decode cX1_wouldWin 24 = .ok (.aload_n 3, 1) := by decide +kernel
theorem dX1_wouldWin_25 : decode cX1_wouldWin 25 = .ok (.getfield 46, 3) := by decide +kernel
theorem dX1_wouldWin_28 : decode cX1_wouldWin 28 = .ok (.invokevirtual 49, 3) := by decide +kernel
theorem dX1_wouldWin_31 : decode cX1_wouldWin 31 = .ok (.invokevirtual 70, 3) := by decide +kernel
theorem dX1_wouldWin_34 : decode cX1_wouldWin 34 = .ok (.istore 5, 2) := by decide +kernel
theorem dX1_wouldWin_36 : decode cX1_wouldWin 36 = .ok (.iload 5, 2) := by decide +kernel
theorem dX1_wouldWin_38 : decode cX1_wouldWin 38 = .ok (.ifCond .le 18, 3) := by decide +kernel
theorem dX1_wouldWin_41 : decode cX1_wouldWin 41 = .ok (.iload 5, 2) := by decide +kernel
theorem dX1_wouldWin_43 : decode cX1_wouldWin 43 = .ok (.aload_n 0, 1) := by decide +kernel
theorem dX1_wouldWin_44 : decode cX1_wouldWin 44 = .ok (.aload_n 3, 1) := by decide +kernel
theorem dX1_wouldWin_45 : decode cX1_wouldWin 45 = .ok (.aload_n 2, 1) := by decide +kernel
theorem dX1_wouldWin_46 : decode cX1_wouldWin 46 = .ok (.invokevirtual 74, 3) := by decide +kernel
theorem dX1_wouldWin_49 : decode cX1_wouldWin 49 = .ok (.if_icmp .le 7, 3) := by decide +kernel
theorem dX1_wouldWin_52 : decode cX1_wouldWin 52 = .ok (.iconst 1, 1) := by decide +kernel
theorem dX1_wouldWin_53 : decode cX1_wouldWin 53 = .ok (.goto 4, 3) := by decide +kernel
theorem dX1_wouldWin_56 : decode cX1_wouldWin 56 = .ok (.iconst 0, 1) := by decide +kernel
theorem dX1_wouldWin_57 : decode cX1_wouldWin 57 = .ok (.ireturn, 1) := by decide +kernel
theorem dX1_strike_0 : decode cX1_strike 0 = .ok (.aload_n 0, 1) := by decide +kernel
theorem dX1_strike_1 : decode cX1_strike 1 = .ok (.iload_n 1, 1) := by decide +kernel
theorem dX1_strike_2 : decode cX1_strike 2 = .ok (.invokevirtual 66, 3) := by decide +kernel
theorem dX1_strike_5 : decode cX1_strike 5 = .ok (.astore_n 3, 1) := by decide +kernel
theorem dX1_strike_6 : decode cX1_strike 6 = .ok (.aload_n 0, 1) := by decide +kernel
theorem dX1_strike_7 : decode cX1_strike 7 = .ok (.iconst 1, 1) := by decide +kernel
theorem dX1_strike_8 : decode cX1_strike 8 = .ok (.iload_n 1, 1) := by decide +kernel
theorem dX1_strike_9 : decode cX1_strike 9 = .ok (.isub, 1) := by decide +kernel
theorem dX1_strike_10 : decode cX1_strike 10 = .ok (.invokevirtual 66, 3) := by decide +kernel
theorem dX1_strike_13 : decode cX1_strike 13 = .ok (.astore 4, 2) := by decide +kernel
theorem dX1_strike_15 : decode cX1_strike 15 = .ok (.aload_n 2, 1) := by decide +kernel
theorem dX1_strike_16 : decode cX1_strike 16 = .ok (.aload_n 3, 1) := by decide +kernel
theorem dX1_strike_17 : decode cX1_strike 17 = .ok (.getfield 46, 3) := by decide +kernel
theorem dX1_strike_20 : decode cX1_strike 20 = .ok (.invokevirtual 49, 3) := by decide +kernel
theorem dX1_strike_23 : decode cX1_strike 23 = .ok (.istore 5, 2) := by decide +kernel
theorem dX1_strike_25 : decode cX1_strike 25 = .ok (.aload_n 0, 1) := by decide +kernel
theorem dX1_strike_26 : decode cX1_strike 26 = .ok (.aload_n 3, 1) := by decide +kernel
theorem dX1_strike_27 : decode cX1_strike 27 = .ok (.aload_n 2, 1) := by decide +kernel
theorem dX1_strike_28 : decode cX1_strike 28 = .ok (.invokevirtual 74, 3) := by decide +kernel
theorem dX1_strike_31 : decode cX1_strike 31 = .ok (.istore 6, 2) := by decide +kernel
theorem dX1_strike_33 : decode cX1_strike 33 = .ok (.aload_n 3, 1) := by decide +kernel
theorem dX1_strike_34 : decode cX1_strike 34 = .ok (.aload_n 2, 1) := by decide +kernel
theorem dX1_strike_35 : decode cX1_strike 35 = .ok (.invokevirtual 78, 3) := by decide +kernel
theorem dX1_strike_38 : decode cX1_strike 38 = .ok (.invokevirtual 82, 3) := by decide +kernel
theorem dX1_strike_41 : decode cX1_strike 41 = .ok (.aload_n 0, 1) := by decide +kernel
theorem dX1_strike_42 : decode cX1_strike 42 = .ok (.aload 4, 2) := by decide +kernel
theorem dX1_strike_44 : decode cX1_strike 44 = .ok (.aload 4, 2) := by decide +kernel
theorem dX1_strike_46 : decode cX1_strike 46 = .ok (.getfield 46, 3) := by decide +kernel
theorem dX1_strike_49 : decode cX1_strike 49 = .ok (.iload 5, 2) := by decide +kernel
theorem dX1_strike_51 : decode cX1_strike 51 = .ok (.invokevirtual 70, 3) := by decide +kernel
theorem dX1_strike_54 : decode cX1_strike 54 = .ok (.iload 6, 2) := by decide +kernel
theorem dX1_strike_56 : decode cX1_strike 56 = .ok (.if_icmp .le 5, 3) := by decide +kernel
theorem dX1_strike_59 : decode cX1_strike 59 = .ok (.iconst 1, 1) := by decide +kernel
theorem dX1_strike_60 : decode cX1_strike 60 = .ok (.ireturn, 1) := by decide +kernel
theorem dX1_strike_61 : decode cX1_strike 61 = .ok (.aload 4, 2) := by decide +kernel
theorem dX1_strike_63 : decode cX1_strike 63 = .ok (.iload 5, 2) := by decide +kernel
theorem dX1_strike_65 : decode cX1_strike 65 = .ok (.invokevirtual 86, 3) := by decide +kernel
theorem dX1_strike_68 : decode cX1_strike 68 = .ok (.aload_n 3, 1) := by decide +kernel
theorem dX1_strike_69 : decode cX1_strike 69 = .ok (.getfield 89, 3) := by decide +kernel
theorem dX1_strike_72 : decode cX1_strike 72 = .ok (.iconst (-1), 1) := by decide +kernel
theorem dX1_strike_73 : decode cX1_strike 73 = .ok (.if_icmp .eq 29, 3) := by decide +kernel
theorem dX1_strike_76 : decode cX1_strike 76 = .ok (.aload_n 0, 1) := by decide +kernel
theorem dX1_strike_77 : decode cX1_strike 77 = .ok (.aload_n 3, 1) := by decide +kernel
theorem dX1_strike_78 : decode cX1_strike 78 = .ok (.aload_n 3, 1) := by decide +kernel
theorem dX1_strike_79 : decode cX1_strike 79 = .ok (.getfield 46, 3) := by decide +kernel
theorem dX1_strike_82 : decode cX1_strike 82 = .ok (.aload_n 3, 1) := by decide +kernel
theorem dX1_strike_83 : decode cX1_strike 83 = .ok (.getfield 89, 3) := by decide +kernel
theorem dX1_strike_86 : decode cX1_strike 86 = .ok (.invokevirtual 70, 3) := by decide +kernel
theorem dX1_strike_89 : decode cX1_strike 89 = .ok (.iload 6, 2) := by decide +kernel
theorem dX1_strike_91 : decode cX1_strike 91 = .ok (.if_icmp .gt 11, 3) := by decide +kernel
theorem dX1_strike_94 : decode cX1_strike 94 = .ok (.aload_n 3, 1) := by decide +kernel
theorem dX1_strike_95 : decode cX1_strike 95 = .ok (.aload_n 3, 1) := by decide +kernel
theorem dX1_strike_96 : decode cX1_strike 96 = .ok (.getfield 89, 3) := by decide +kernel
theorem dX1_strike_99 : decode cX1_strike 99 = .ok (.invokevirtual 86, 3) := by decide +kernel
theorem dX1_strike_102 : decode cX1_strike 102 = .ok (.aload_n 0, 1) := by decide +kernel
theorem dX1_strike_103 : decode cX1_strike 103 = .ok (.bipush 99, 2) := by decide +kernel
theorem dX1_strike_105 : decode cX1_strike 105 = .ok (.aload_n 0, 1) := by decide +kernel
theorem dX1_strike_106 : decode cX1_strike 106 = .ok (.getfield 21, 3) := by decide +kernel
theorem dX1_strike_109 : decode cX1_strike 109 = .ok (.iconst 1, 1) := by decide +kernel
theorem dX1_strike_110 : decode cX1_strike 110 = .ok (.iadd, 1) := by decide +kernel
theorem dX1_strike_111 : decode cX1_strike 111 = .ok (.invokestatic 92, 3) := by decide +kernel
theorem dX1_strike_114 : decode cX1_strike 114 = .ok (.putfield 21, 3) := by decide +kernel
theorem dX1_strike_117 : decode cX1_strike 117 = .ok (.iconst 0, 1) := by decide +kernel
theorem dX1_strike_118 : decode cX1_strike 118 = .ok (.ireturn, 1) := by decide +kernel
theorem dX2_init_0 : decode cX2_init 0 = .ok (.aload_n 0, 1) := by decide +kernel
theorem dX2_init_1 : decode cX2_init 1 = .ok (.iload_n 1, 1) := by decide +kernel
theorem dX2_init_2 : decode cX2_init 2 = .ok (.iload_n 2, 1) := by decide +kernel
theorem dX2_init_3 : decode cX2_init 3 = .ok (.invokespecial 3, 3) := by decide +kernel
theorem dX2_init_6 : decode cX2_init 6 = .ok (.return_, 1) := by decide +kernel
theorem dX2_kind_0 : decode cX2_kind 0 = .ok (.iconst 5, 1) := by decide +kernel
theorem dX2_kind_1 : decode cX2_kind 1 = .ok (.ireturn, 1) := by decide +kernel
theorem dX2_comes_0 : decode cX2_comes 0 = .ok (.aload_n 0, 1) := by decide +kernel
theorem dX2_comes_1 : decode cX2_comes 1 = .ok (.iload_n 1, 1) := by decide +kernel
theorem dX2_comes_2 : decode cX2_comes 2 = .ok (.invokespecial 9, 3) := by decide +kernel
theorem dX2_comes_5 : decode cX2_comes 5 = .ok (.istore_n 2, 1) := by decide +kernel
theorem dX2_comes_6 : decode cX2_comes 6 = .ok (.iload_n 1, 1) := by decide +kernel
theorem dX2_comes_7 : decode cX2_comes 7 = .ok (.iconst 5, 1) := by decide +kernel
theorem dX2_comes_8 : decode cX2_comes 8 = .ok (.irem, 1) := by decide +kernel
theorem dX2_comes_9 : decode cX2_comes 9 = .ok (.iconst 2, 1) := by decide +kernel
theorem dX2_comes_10 : decode cX2_comes 10 = .ok (.if_icmp .ge 10, 3) := by decide +kernel
theorem dX2_comes_13 : decode cX2_comes 13 = .ok (.iload_n 2, 1) := by decide +kernel
theorem dX2_comes_14 : decode cX2_comes 14 = .ok (.invokestatic 13, 3) := by decide +kernel
theorem dX2_comes_17 : decode cX2_comes 17 = .ok (.goto 4, 3) := by decide +kernel
theorem dX2_comes_20 : decode cX2_comes 20 = .ok (.iload_n 2, 1) := by decide +kernel
theorem dX2_comes_21 : decode cX2_comes 21 = .ok (.ireturn, 1) := by decide +kernel
theorem dX2_flight_0 : decode cX2_flight 0 = .ok (.aload_n 0, 1) := by decide +kernel
theorem dX2_flight_1 : decode cX2_flight 1 = .ok (.iload_n 1, 1) := by decide +kernel
theorem dX2_flight_2 : decode cX2_flight 2 = .ok (.iload_n 2, 1) := by decide +kernel
theorem dX2_flight_3 : decode cX2_flight 3 = .ok (.invokespecial 16, 3) := by decide +kernel
theorem dX2_flight_6 : decode cX2_flight 6 = .ok (.iconst 2, 1) := by decide +kernel
theorem dX2_flight_7 : decode cX2_flight 7 = .ok (.isub, 1) := by decide +kernel
theorem dX2_flight_8 : decode cX2_flight 8 = .ok (.ireturn, 1) := by decide +kernel
theorem dX2_spends_0 : decode cX2_spends 0 = .ok (.aload_n 0, 1) := by decide +kernel
theorem dX2_spends_1 : decode cX2_spends 1 = .ok (.invokespecial 20, 3) := by decide +kernel
theorem dX2_spends_4 : decode cX2_spends 4 = .ok (.iconst 2, 1) := by decide +kernel
theorem dX2_spends_5 : decode cX2_spends 5 = .ok (.iadd, 1) := by decide +kernel
theorem dX2_spends_6 : decode cX2_spends 6 = .ok (.ireturn, 1) := by decide +kernel
theorem dX3_init_0 : decode cX3_init 0 = .ok (.aload_n 0, 1) := by decide +kernel
theorem dX3_init_1 : decode cX3_init 1 = .ok (.iload_n 1, 1) := by decide +kernel
theorem dX3_init_2 : decode cX3_init 2 = .ok (.iload_n 2, 1) := by decide +kernel
theorem dX3_init_3 : decode cX3_init 3 = .ok (.invokespecial 3, 3) := by decide +kernel
theorem dX3_init_6 : decode cX3_init 6 = .ok (.return_, 1) := by decide +kernel
theorem dX3_kind_0 : decode cX3_kind 0 = .ok (.iconst 2, 1) := by decide +kernel
theorem dX3_kind_1 : decode cX3_kind 1 = .ok (.ireturn, 1) := by decide +kernel
theorem dX3_flight_0 : decode cX3_flight 0 = .ok (.aload_n 0, 1) := by decide +kernel
theorem dX3_flight_1 : decode cX3_flight 1 = .ok (.iload_n 1, 1) := by decide +kernel
theorem dX3_flight_2 : decode cX3_flight 2 = .ok (.iload_n 2, 1) := by decide +kernel
theorem dX3_flight_3 : decode cX3_flight 3 = .ok (.invokespecial 9, 3) := by decide +kernel
theorem dX3_flight_6 : decode cX3_flight 6 = .ok (.istore_n 3, 1) := by decide +kernel
theorem dX3_flight_7 : decode cX3_flight 7 = .ok (.iload_n 2, 1) := by decide +kernel
theorem dX3_flight_8 : decode cX3_flight 8 = .ok (.bipush 20, 2) := by decide +kernel
theorem dX3_flight_10 : decode cX3_flight 10 = .ok (.if_icmp .ge 9, 3) := by decide +kernel
theorem dX3_flight_13 : decode cX3_flight 13 = .ok (.iload_n 3, 1) := by decide +kernel
theorem dX3_flight_14 : decode cX3_flight 14 = .ok (.iconst 2, 1) := by decide +kernel
theorem dX3_flight_15 : decode cX3_flight 15 = .ok (.idiv, 1) := by decide +kernel
theorem dX3_flight_16 : decode cX3_flight 16 = .ok (.goto 4, 3) := by decide +kernel
theorem dX3_flight_19 : decode cX3_flight 19 = .ok (.iload_n 3, 1) := by decide +kernel
theorem dX3_flight_20 : decode cX3_flight 20 = .ok (.ireturn, 1) := by decide +kernel
theorem dX3_spends_0 : decode cX3_spends 0 = .ok (.aload_n 0, 1) := by decide +kernel
theorem dX3_spends_1 : decode cX3_spends 1 = .ok (.invokespecial 13, 3) := by decide +kernel
theorem dX3_spends_4 : decode cX3_spends 4 = .ok (.aload_n 0, 1) := by decide +kernel
theorem dX3_spends_5 : decode cX3_spends 5 = .ok (.getfield 17, 3) := by decide +kernel
theorem dX3_spends_8 : decode cX3_spends 8 = .ok (.iconst 2, 1) := by decide +kernel
theorem dX3_spends_9 : decode cX3_spends 9 = .ok (.idiv, 1) := by decide +kernel
theorem dX3_spends_10 : decode cX3_spends 10 = .ok (.iadd, 1) := by decide +kernel
theorem dX3_spends_11 : decode cX3_spends 11 = .ok (.ireturn, 1) := by decide +kernel
theorem dX4_init_0 : decode cX4_init 0 = .ok (.aload_n 0, 1) := by decide +kernel
theorem dX4_init_1 : decode cX4_init 1 = .ok (.iload_n 1, 1) := by decide +kernel
theorem dX4_init_2 : decode cX4_init 2 = .ok (.iload_n 2, 1) := by decide +kernel
theorem dX4_init_3 : decode cX4_init 3 = .ok (.invokespecial 3, 3) := by decide +kernel
theorem dX4_init_6 : decode cX4_init 6 = .ok (.return_, 1) := by decide +kernel
theorem dX4_kind_0 : decode cX4_kind 0 = .ok (.iconst 1, 1) := by decide +kernel
theorem dX4_kind_1 : decode cX4_kind 1 = .ok (.ireturn, 1) := by decide +kernel
theorem dX4_flight_0 : decode cX4_flight 0 = .ok (.aload_n 0, 1) := by decide +kernel
theorem dX4_flight_1 : decode cX4_flight 1 = .ok (.iload_n 1, 1) := by decide +kernel
theorem dX4_flight_2 : decode cX4_flight 2 = .ok (.iload_n 2, 1) := by decide +kernel
theorem dX4_flight_3 : decode cX4_flight 3 = .ok (.invokespecial 9, 3) := by decide +kernel
theorem dX4_flight_6 : decode cX4_flight 6 = .ok (.aload_n 0, 1) := by decide +kernel
theorem dX4_flight_7 : decode cX4_flight 7 = .ok (.getfield 13, 3) := by decide +kernel
theorem dX4_flight_10 : decode cX4_flight 10 = .ok (.iadd, 1) := by decide +kernel
theorem dX4_flight_11 : decode cX4_flight 11 = .ok (.ireturn, 1) := by decide +kernel
theorem dX5_init_0 : decode cX5_init 0 = .ok (.aload_n 0, 1) := by decide +kernel
theorem dX5_init_1 : decode cX5_init 1 = .ok (.iload_n 1, 1) := by decide +kernel
theorem dX5_init_2 : decode cX5_init 2 = .ok (.iload_n 2, 1) := by decide +kernel
theorem dX5_init_3 : decode cX5_init 3 = .ok (.invokespecial 3, 3) := by decide +kernel
theorem dX5_init_6 : decode cX5_init 6 = .ok (.return_, 1) := by decide +kernel
theorem dX5_kind_0 : decode cX5_kind 0 = .ok (.iconst 3, 1) := by decide +kernel
theorem dX5_kind_1 : decode cX5_kind 1 = .ok (.ireturn, 1) := by decide +kernel
theorem dX5_comes_0 : decode cX5_comes 0 = .ok (.aload_n 0, 1) := by decide +kernel
theorem dX5_comes_1 : decode cX5_comes 1 = .ok (.getfield 9, 3) := by decide +kernel
theorem dX5_comes_4 : decode cX5_comes 4 = .ok (.bipush 20, 2) := by decide +kernel
theorem dX5_comes_6 : decode cX5_comes 6 = .ok (.if_icmp .ge 12, 3) := by decide +kernel
theorem dX5_comes_9 : decode cX5_comes 9 = .ok (.aload_n 0, 1) := by decide +kernel
theorem dX5_comes_10 : decode cX5_comes 10 = .ok (.getfield 9, 3) := by decide +kernel
theorem dX5_comes_13 : decode cX5_comes 13 = .ok (.iconst 5, 1) := by decide +kernel
theorem dX5_comes_14 : decode cX5_comes 14 = .ok (.iadd, 1) := by decide +kernel
theorem dX5_comes_15 : decode cX5_comes 15 = .ok (.goto 7, 3) := by decide +kernel
theorem dX5_comes_18 : decode cX5_comes 18 = .ok (.aload_n 0, 1) := by decide +kernel
theorem dX5_comes_19 : decode cX5_comes 19 = .ok (.getfield 9, 3) := by decide +kernel
theorem dX5_comes_22 : decode cX5_comes 22 = .ok (.ireturn, 1) := by decide +kernel
theorem dX5_flight_0 : decode cX5_flight 0 = .ok (.aload_n 0, 1) := by decide +kernel
theorem dX5_flight_1 : decode cX5_flight 1 = .ok (.iload_n 1, 1) := by decide +kernel
theorem dX5_flight_2 : decode cX5_flight 2 = .ok (.iload_n 2, 1) := by decide +kernel
theorem dX5_flight_3 : decode cX5_flight 3 = .ok (.invokespecial 15, 3) := by decide +kernel
theorem dX5_flight_6 : decode cX5_flight 6 = .ok (.bipush 10, 2) := by decide +kernel
theorem dX5_flight_8 : decode cX5_flight 8 = .ok (.iadd, 1) := by decide +kernel
theorem dX5_flight_9 : decode cX5_flight 9 = .ok (.ireturn, 1) := by decide +kernel
theorem dX5_spends_0 : decode cX5_spends 0 = .ok (.iconst 0, 1) := by decide +kernel
theorem dX5_spends_1 : decode cX5_spends 1 = .ok (.ireturn, 1) := by decide +kernel
theorem dX6_init_0 : decode cX6_init 0 = .ok (.aload_n 0, 1) := by decide +kernel
theorem dX6_init_1 : decode cX6_init 1 = .ok (.invokespecial 3, 3) := by decide +kernel
theorem dX6_init_4 : decode cX6_init 4 = .ok (.aload_n 0, 1) := by decide +kernel
theorem dX6_init_5 : decode cX6_init 5 = .ok (.bipush 12, 2) := by decide +kernel
theorem dX6_init_7 : decode cX6_init 7 = .ok (.putfield 9, 3) := by decide +kernel
theorem dX6_init_10 : decode cX6_init 10 = .ok (.aload_n 0, 1) := by decide +kernel
theorem dX6_init_11 : decode cX6_init 11 = .ok (.sipush 500, 3) := by decide +kernel
theorem dX6_init_14 : decode cX6_init 14 = .ok (.putfield 15, 3) := by decide +kernel
theorem dX6_init_17 : decode cX6_init 17 = .ok (.aload_n 0, 1) := by decide +kernel
theorem dX6_init_18 : decode cX6_init 18 = .ok (.iconst 5, 1) := by decide +kernel
theorem dX6_init_19 : decode cX6_init 19 = .ok (.putfield 18, 3) := by decide +kernel
theorem dX6_init_22 : decode cX6_init 22 = .ok (.aload_n 0, 1) := by decide +kernel
theorem dX6_init_23 : decode cX6_init 23 = .ok (.bipush 12, 2) := by decide +kernel
theorem dX6_init_25 : decode cX6_init 25 = .ok (.putfield 21, 3) := by decide +kernel
theorem dX6_init_28 : decode cX6_init 28 = .ok (.return_, 1) := by decide +kernel
theorem dX6_take_0 : decode cX6_take 0 = .ok (.aload_n 0, 1) := by decide +kernel
theorem dX6_take_1 : decode cX6_take 1 = .ok (.aload_n 1, 1) := by decide +kernel
theorem dX6_take_2 : decode cX6_take 2 = .ok (.getfield 9, 3) := by decide +kernel
theorem dX6_take_5 : decode cX6_take 5 = .ok (.putfield 9, 3) := by decide +kernel
theorem dX6_take_8 : decode cX6_take 8 = .ok (.aload_n 0, 1) := by decide +kernel
theorem dX6_take_9 : decode cX6_take 9 = .ok (.aload_n 1, 1) := by decide +kernel
theorem dX6_take_10 : decode cX6_take 10 = .ok (.getfield 15, 3) := by decide +kernel
theorem dX6_take_13 : decode cX6_take 13 = .ok (.putfield 15, 3) := by decide +kernel
theorem dX6_take_16 : decode cX6_take 16 = .ok (.aload_n 0, 1) := by decide +kernel
theorem dX6_take_17 : decode cX6_take 17 = .ok (.aload_n 1, 1) := by decide +kernel
theorem dX6_take_18 : decode cX6_take 18 = .ok (.getfield 18, 3) := by decide +kernel
theorem dX6_take_21 : decode cX6_take 21 = .ok (.putfield 18, 3) := by decide +kernel
theorem dX6_take_24 : decode cX6_take 24 = .ok (.aload_n 0, 1) := by decide +kernel
theorem dX6_take_25 : decode cX6_take 25 = .ok (.aload_n 1, 1) := by decide +kernel
theorem dX6_take_26 : decode cX6_take 26 = .ok (.getfield 21, 3) := by decide +kernel
theorem dX6_take_29 : decode cX6_take 29 = .ok (.putfield 21, 3) := by decide +kernel
theorem dX6_take_32 : decode cX6_take 32 = .ok (.return_, 1) := by decide +kernel
theorem dX6_tire_0 : decode cX6_tire 0 = .ok (.aload_n 0, 1) := by decide +kernel
theorem dX6_tire_1 : decode cX6_tire 1 = .ok (.iconst 0, 1) := by decide +kernel
theorem dX6_tire_2 : decode cX6_tire 2 = .ok (.aload_n 0, 1) := by decide +kernel
theorem dX6_tire_3 : decode cX6_tire 3 = .ok (.getfield 15, 3) := by decide +kernel
theorem dX6_tire_6 : decode cX6_tire 6 = .ok (.iload_n 1, 1) := by decide +kernel
theorem dX6_tire_7 : decode cX6_tire 7 = .ok (.isub, 1) := by decide +kernel
theorem dX6_tire_8 : decode cX6_tire 8 = .ok (.invokestatic 24, 3) := by decide +kernel
theorem dX6_tire_11 : decode cX6_tire 11 = .ok (.putfield 15, 3) := by decide +kernel
theorem dX6_tire_14 : decode cX6_tire 14 = .ok (.return_, 1) := by decide +kernel
theorem dX6_go_0 : decode cX6_go 0 = .ok (.aload_n 0, 1) := by decide +kernel
theorem dX6_go_1 : decode cX6_go 1 = .ok (.aload_n 0, 1) := by decide +kernel
theorem dX6_go_2 : decode cX6_go 2 = .ok (.getfield 9, 3) := by decide +kernel
theorem dX6_go_5 : decode cX6_go 5 = .ok (.iload_n 1, 1) := by decide +kernel
theorem dX6_go_6 : decode cX6_go 6 = .ok (.invokestatic 30, 3) := by decide +kernel
theorem dX6_go_9 : decode cX6_go 9 = .ok (.invokevirtual 33, 3) := by decide +kernel
theorem dX6_go_12 : decode cX6_go 12 = .ok (.aload_n 0, 1) := by decide +kernel
theorem dX6_go_13 : decode cX6_go 13 = .ok (.iload_n 1, 1) := by decide +kernel
theorem dX6_go_14 : decode cX6_go 14 = .ok (.putfield 9, 3) := by decide +kernel
theorem dX6_go_17 : decode cX6_go 17 = .ok (.return_, 1) := by decide +kernel
theorem dX6_value_0 : decode cX6_value 0 = .ok (.iload_n 1, 1) := by decide +kernel
theorem dX6_value_1 : decode cX6_value 1 = .ok (.tableswitch 42 0 2 #[27, 32, 37], 27) := by decide +kernel
theorem dX6_value_28 : decode cX6_value 28 = .ok (.aload_n 0, 1) := by decide +kernel
theorem dX6_value_29 : decode cX6_value 29 = .ok (.getfield 9, 3) := by decide +kernel
theorem dX6_value_32 : decode cX6_value 32 = .ok (.ireturn, 1) := by decide +kernel
theorem dX6_value_33 : decode cX6_value 33 = .ok (.aload_n 0, 1) := by decide +kernel
theorem dX6_value_34 : decode cX6_value 34 = .ok (.getfield 15, 3) := by decide +kernel
theorem dX6_value_37 : decode cX6_value 37 = .ok (.ireturn, 1) := by decide +kernel
theorem dX6_value_38 : decode cX6_value 38 = .ok (.aload_n 0, 1) := by decide +kernel
theorem dX6_value_39 : decode cX6_value 39 = .ok (.getfield 18, 3) := by decide +kernel
theorem dX6_value_42 : decode cX6_value 42 = .ok (.ireturn, 1) := by decide +kernel
theorem dX6_value_43 : decode cX6_value 43 = .ok (.aload_n 0, 1) := by decide +kernel
theorem dX6_value_44 : decode cX6_value 44 = .ok (.getfield 21, 3) := by decide +kernel
theorem dX6_value_47 : decode cX6_value 47 = .ok (.ireturn, 1) := by decide +kernel
theorem dX6_change_0 : decode cX6_change 0 = .ok (.aload_n 0, 1) := by decide +kernel
theorem dX6_change_1 : decode cX6_change 1 = .ok (.iload_n 1, 1) := by decide +kernel
theorem dX6_change_2 : decode cX6_change 2 = .ok (.invokevirtual 37, 3) := by decide +kernel
theorem dX6_change_5 : decode cX6_change 5 = .ok (.istore_n 3, 1) := by decide +kernel
theorem dX6_change_6 : decode cX6_change 6 = .ok (.iload_n 1, 1) := by decide +kernel
theorem dX6_change_7 : decode cX6_change 7 = .ok (.tableswitch 49 0 2 #[25, 33, 41], 25) := by decide +kernel
theorem dX6_change_32 : decode cX6_change 32 = .ok (.aload_n 0, 1) := by decide +kernel
theorem dX6_change_33 : decode cX6_change 33 = .ok (.iload_n 2, 1) := by decide +kernel
theorem dX6_change_34 : decode cX6_change 34 = .ok (.putfield 9, 3) := by decide +kernel
theorem dX6_change_37 : decode cX6_change 37 = .ok (.goto 24, 3) := by decide +kernel
theorem dX6_change_40 : decode cX6_change 40 = .ok (.aload_n 0, 1) := by decide +kernel
theorem dX6_change_41 : decode cX6_change 41 = .ok (.iload_n 2, 1) := by decide +kernel
theorem dX6_change_42 : decode cX6_change 42 = .ok (.putfield 15, 3) := by decide +kernel
theorem dX6_change_45 : decode cX6_change 45 = .ok (.goto 16, 3) := by decide +kernel
theorem dX6_change_48 : decode cX6_change 48 = .ok (.aload_n 0, 1) := by decide +kernel
theorem dX6_change_49 : decode cX6_change 49 = .ok (.iload_n 2, 1) := by decide +kernel
theorem dX6_change_50 : decode cX6_change 50 = .ok (.putfield 18, 3) := by decide +kernel
theorem dX6_change_53 : decode cX6_change 53 = .ok (.goto 8, 3) := by decide +kernel
theorem dX6_change_56 : decode cX6_change 56 = .ok (.aload_n 0, 1) := by decide +kernel
theorem dX6_change_57 : decode cX6_change 57 = .ok (.iload_n 2, 1) := by decide +kernel
theorem dX6_change_58 : decode cX6_change 58 = .ok (.putfield 21, 3) := by decide +kernel
theorem dX6_change_61 : decode cX6_change 61 = .ok (.iload_n 3, 1) := by decide +kernel
theorem dX6_change_62 : decode cX6_change 62 = .ok (.ireturn, 1) := by decide +kernel
theorem dX7_init_0 : decode cX7_init 0 = .ok (.aload_n 0, 1) := by decide +kernel
theorem dX7_init_1 : decode cX7_init 1 = .ok (.invokespecial 3, 3) := by decide +kernel
theorem dX7_init_4 : decode cX7_init 4 = .ok (.aload_n 0, 1) := by decide +kernel
theorem dX7_init_5 : decode cX7_init 5 = .ok (.bipush 40, 2) := by decide +kernel
theorem dX7_init_7 : decode cX7_init 7 = .ok (.newarray .int, 2) := by decide +kernel
theorem dX7_init_9 : decode cX7_init 9 = .ok (.putfield 9, 3) := by decide +kernel
theorem dX7_init_12 : decode cX7_init 12 = .ok (.aload_n 0, 1) := by decide +kernel
theorem dX7_init_13 : decode cX7_init 13 = .ok (.iconst (-1), 1) := by decide +kernel
theorem dX7_init_14 : decode cX7_init 14 = .ok (.putfield 15, 3) := by decide +kernel
theorem dX7_init_17 : decode cX7_init 17 = .ok (.aload_n 0, 1) := by decide +kernel
theorem dX7_init_18 : decode cX7_init 18 = .ok (.iconst 0, 1) := by decide +kernel
theorem dX7_init_19 : decode cX7_init 19 = .ok (.putfield 19, 3) := by decide +kernel
theorem dX7_init_22 : decode cX7_init 22 = .ok (.return_, 1) := by decide +kernel
theorem dX7_isMissing_0 : decode cX7_isMissing 0 = .ok (.aload_n 0, 1) := by decide +kernel
theorem dX7_isMissing_1 : decode cX7_isMissing 1 = .ok (.getfield 15, 3) := by decide +kernel
theorem dX7_isMissing_4 : decode cX7_isMissing 4 = .ok (.iconst (-1), 1) := by decide +kernel
theorem dX7_isMissing_5 : decode cX7_isMissing 5 = .ok (.if_icmp .ne 7, 3) := by decide +kernel
theorem dX7_isMissing_8 : decode cX7_isMissing 8 = .ok (.iconst 1, 1) := by decide +kernel
theorem dX7_isMissing_9 : decode cX7_isMissing 9 = .ok (.goto 4, 3) := by decide +kernel
theorem dX7_isMissing_12 : decode cX7_isMissing 12 = .ok (.iconst 0, 1) := by decide +kernel
theorem dX7_isMissing_13 : decode cX7_isMissing 13 = .ok (.ireturn, 1) := by decide +kernel
theorem dX7_holds_0 : decode cX7_holds 0 = .ok (.iload_n 1, 1) := by decide +kernel
theorem dX7_holds_1 : decode cX7_holds 1 = .ok (.ifCond .lt 29, 3) := by decide +kernel
theorem dX7_holds_4 : decode cX7_holds 4 = .ok (.iload_n 2, 1) := by decide +kernel
theorem dX7_holds_5 : decode cX7_holds 5 = .ok (.ifCond .lt 25, 3) := by decide +kernel
theorem dX7_holds_8 : decode cX7_holds 8 = .ok (.iload_n 2, 1) := by decide +kernel
theorem dX7_holds_9 : decode cX7_holds 9 = .ok (.aload_n 0, 1) := by decide +kernel
theorem dX7_holds_10 : decode cX7_holds 10 = .ok (.getfield 19, 3) := by decide +kernel
theorem dX7_holds_13 : decode cX7_holds 13 = .ok (.if_icmp .gt 17, 3) := by decide +kernel
theorem dX7_holds_16 : decode cX7_holds 16 = .ok (.iload_n 1, 1) := by decide +kernel
theorem dX7_holds_17 : decode cX7_holds 17 = .ok (.aload_n 0, 1) := by decide +kernel
theorem dX7_holds_18 : decode cX7_holds 18 = .ok (.getfield 19, 3) := by decide +kernel
theorem dX7_holds_21 : decode cX7_holds 21 = .ok (.iload_n 2, 1) := by decide +kernel
theorem dX7_holds_22 : decode cX7_holds 22 = .ok (.isub, 1) := by decide +kernel
theorem dX7_holds_23 : decode cX7_holds 23 = .ok (.if_icmp .gt 7, 3) := by decide +kernel
theorem dX7_holds_26 : decode cX7_holds 26 = .ok (.iconst 1, 1) := by decide +kernel
theorem dX7_holds_27 : decode cX7_holds 27 = .ok (.goto 4, 3) := by decide +kernel
theorem dX7_holds_30 : decode cX7_holds 30 = .ok (.iconst 0, 1) := by decide +kernel
theorem dX7_holds_31 : decode cX7_holds 31 = .ok (.ireturn, 1) := by decide +kernel
theorem dX7_become_0 : decode cX7_become 0 = .ok (.aload_n 0, 1) := by decide +kernel
theorem dX7_become_1 : decode cX7_become 1 = .ok (.iload_n 1, 1) := by decide +kernel
theorem dX7_become_2 : decode cX7_become 2 = .ok (.putfield 15, 3) := by decide +kernel
theorem dX7_become_5 : decode cX7_become 5 = .ok (.aload_n 0, 1) := by decide +kernel
theorem dX7_become_6 : decode cX7_become 6 = .ok (.iload_n 2, 1) := by decide +kernel
theorem dX7_become_7 : decode cX7_become 7 = .ok (.bipush 40, 2) := by decide +kernel
theorem dX7_become_9 : decode cX7_become 9 = .ok (.invokestatic 22, 3) := by decide +kernel
theorem dX7_become_12 : decode cX7_become 12 = .ok (.putfield 19, 3) := by decide +kernel
theorem dX7_become_15 : decode cX7_become 15 = .ok (.iconst 0, 1) := by decide +kernel
theorem dX7_become_16 : decode cX7_become 16 = .ok (.istore_n 3, 1) := by decide +kernel
theorem dX7_become_17 : decode cX7_become 17 = .ok (.iload_n 3, 1) := by decide +kernel
theorem dX7_become_18 : decode cX7_become 18 = .ok (.aload_n 0, 1) := by decide +kernel
theorem dX7_become_19 : decode cX7_become 19 = .ok (.getfield 9, 3) := by decide +kernel
theorem dX7_become_22 : decode cX7_become 22 = .ok (.arraylength, 1) := by decide +kernel
theorem dX7_become_23 : decode cX7_become 23 = .ok (.if_icmp .ge 16, 3) := by decide +kernel
theorem dX7_become_26 : decode cX7_become 26 = .ok (.aload_n 0, 1) := by decide +kernel
theorem dX7_become_27 : decode cX7_become 27 = .ok (.getfield 9, 3) := by decide +kernel
theorem dX7_become_30 : decode cX7_become 30 = .ok (.iload_n 3, 1) := by decide +kernel
theorem dX7_become_31 : decode cX7_become 31 = .ok (.iconst 0, 1) := by decide +kernel
theorem dX7_become_32 : decode cX7_become 32 = .ok (.iastore, 1) := by decide +kernel
theorem dX7_become_33 : decode cX7_become 33 = .ok (.iinc 3 1, 3) := by decide +kernel
theorem dX7_become_36 : decode cX7_become 36 = .ok (.goto (-19), 3) := by decide +kernel
theorem dX7_become_39 : decode cX7_become 39 = .ok (.return_, 1) := by decide +kernel
theorem dX7_item_0 : decode cX7_item 0 = .ok (.iload_n 1, 1) := by decide +kernel
theorem dX7_item_1 : decode cX7_item 1 = .ok (.ifCond .lt 20, 3) := by decide +kernel
theorem dX7_item_4 : decode cX7_item 4 = .ok (.iload_n 1, 1) := by decide +kernel
theorem dX7_item_5 : decode cX7_item 5 = .ok (.aload_n 0, 1) := by decide +kernel
theorem dX7_item_6 : decode cX7_item 6 = .ok (.getfield 19, 3) := by decide +kernel
theorem dX7_item_9 : decode cX7_item 9 = .ok (.if_icmp .ge 12, 3) := by decide +kernel
theorem dX7_item_12 : decode cX7_item 12 = .ok (.iload_n 1, 1) := by decide +kernel
theorem dX7_item_13 : decode cX7_item 13 = .ok (.aload_n 0, 1) := by decide +kernel
theorem dX7_item_14 : decode cX7_item 14 = .ok (.getfield 9, 3) := by decide +kernel
theorem dX7_item_17 : decode cX7_item 17 = .ok (.arraylength, 1) := by decide +kernel
theorem dX7_item_18 : decode cX7_item 18 = .ok (.if_icmp .lt 7, 3) := by decide +kernel
theorem dX7_item_21 : decode cX7_item 21 = .ok (.iconst (-1), 1) := by decide +kernel
theorem dX7_item_22 : decode cX7_item 22 = .ok (.goto 9, 3) := by decide +kernel
theorem dX7_item_25 : decode cX7_item 25 = .ok (.aload_n 0, 1) := by decide +kernel
theorem dX7_item_26 : decode cX7_item 26 = .ok (.getfield 9, 3) := by decide +kernel
theorem dX7_item_29 : decode cX7_item 29 = .ok (.iload_n 1, 1) := by decide +kernel
theorem dX7_item_30 : decode cX7_item 30 = .ok (.iaload, 1) := by decide +kernel
theorem dX7_item_31 : decode cX7_item 31 = .ok (.ireturn, 1) := by decide +kernel
theorem dX7_put_0 : decode cX7_put 0 = .ok (.iload_n 1, 1) := by decide +kernel
theorem dX7_put_1 : decode cX7_put 1 = .ok (.ifCond .lt 52, 3) := by decide +kernel
theorem dX7_put_4 : decode cX7_put 4 = .ok (.iload_n 1, 1) := by decide +kernel
theorem dX7_put_5 : decode cX7_put 5 = .ok (.aload_n 0, 1) := by decide +kernel
theorem dX7_put_6 : decode cX7_put 6 = .ok (.getfield 19, 3) := by decide +kernel
theorem dX7_put_9 : decode cX7_put 9 = .ok (.if_icmp .ge 44, 3) := by decide +kernel
theorem dX7_put_12 : decode cX7_put 12 = .ok (.iload_n 1, 1) := by decide +kernel
theorem dX7_put_13 : decode cX7_put 13 = .ok (.aload_n 0, 1) := by decide +kernel
theorem dX7_put_14 : decode cX7_put 14 = .ok (.getfield 9, 3) := by decide +kernel
theorem dX7_put_17 : decode cX7_put 17 = .ok (.arraylength, 1) := by decide +kernel
theorem dX7_put_18 : decode cX7_put 18 = .ok (.if_icmp .ge 35, 3) := by decide +kernel
theorem dX7_put_21 : decode cX7_put 21 = .ok (.aload_n 0, 1) := by decide +kernel
theorem dX7_put_22 : decode cX7_put 22 = .ok (.getfield 9, 3) := by decide +kernel
theorem dX7_put_25 : decode cX7_put 25 = .ok (.iload_n 1, 1) := by decide +kernel
theorem dX7_put_26 : decode cX7_put 26 = .ok (.aload_n 0, 1) := by decide +kernel
theorem dX7_put_27 : decode cX7_put 27 = .ok (.getfield 15, 3) := by decide +kernel
theorem dX7_put_30 : decode cX7_put 30 = .ok (.ifCond .ne 8, 3) := by decide +kernel
theorem dX7_put_33 : decode cX7_put 33 = .ok (.iload_n 2, 1) := by decide +kernel
theorem dX7_put_34 : decode cX7_put 34 = .ok (.i2b, 1) := by decide +kernel
theorem dX7_put_35 : decode cX7_put 35 = .ok (.goto 17, 3) := by decide +kernel
theorem dX7_put_38 : decode cX7_put 38 = .ok (.aload_n 0, 1) := by decide +kernel
theorem dX7_put_39 : decode cX7_put 39 = .ok (.getfield 15, 3) := by decide +kernel
theorem dX7_put_42 : decode cX7_put 42 = .ok (.iconst 1, 1) := by decide +kernel
theorem dX7_put_43 : decode cX7_put 43 = .ok (.if_icmp .ne 8, 3) := by decide +kernel
theorem dX7_put_46 : decode cX7_put 46 = .ok (.iload_n 2, 1) := by decide +kernel
theorem dX7_put_47 : decode cX7_put 47 = .ok (.i2s, 1) := by decide +kernel
theorem dX7_put_48 : decode cX7_put 48 = .ok (.goto 4, 3) := by decide +kernel
theorem dX7_put_51 : decode cX7_put 51 = .ok (.iload_n 2, 1) := by decide +kernel
theorem dX7_put_52 : decode cX7_put 52 = .ok (.iastore, 1) := by decide +kernel
theorem dX7_put_53 : decode cX7_put 53 = .ok (.return_, 1) := by decide +kernel
theorem dX8_init_0 : decode cX8_init 0 = .ok (.aload_n 0, 1) := by decide +kernel
theorem dX8_init_1 : decode cX8_init 1 = .ok (.invokespecial 3, 3) := by decide +kernel
theorem dX8_init_4 : decode cX8_init 4 = .ok (.aload_n 0, 1) := by decide +kernel
theorem dX8_init_5 : decode cX8_init 5 = .ok (.iload_n 1, 1) := by decide +kernel
theorem dX8_init_6 : decode cX8_init 6 = .ok (.putfield 9, 3) := by decide +kernel
theorem dX8_init_9 : decode cX8_init 9 = .ok (.aload_n 0, 1) := by decide +kernel
theorem dX8_init_10 : decode cX8_init 10 = .ok (.iload_n 2, 1) := by decide +kernel
theorem dX8_init_11 : decode cX8_init 11 = .ok (.putfield 15, 3) := by decide +kernel
theorem dX8_init_14 : decode cX8_init 14 = .ok (.return_, 1) := by decide +kernel
theorem dX8_kind_0 : decode cX8_kind 0 = .ok (.iconst 0, 1) := by decide +kernel
theorem dX8_kind_1 : decode cX8_kind 1 = .ok (.ireturn, 1) := by decide +kernel
theorem dX8_comes_0 : decode cX8_comes 0 = .ok (.aload_n 0, 1) := by decide +kernel
theorem dX8_comes_1 : decode cX8_comes 1 = .ok (.getfield 15, 3) := by decide +kernel
theorem dX8_comes_4 : decode cX8_comes 4 = .ok (.ireturn, 1) := by decide +kernel
theorem dX8_flight_0 : decode cX8_flight 0 = .ok (.iload_n 1, 1) := by decide +kernel
theorem dX8_flight_1 : decode cX8_flight 1 = .ok (.ireturn, 1) := by decide +kernel
theorem dX8_spends_0 : decode cX8_spends 0 = .ok (.iconst 1, 1) := by decide +kernel
theorem dX8_spends_1 : decode cX8_spends 1 = .ok (.ireturn, 1) := by decide +kernel
theorem dX8_value_0 : decode cX8_value 0 = .ok (.iload_n 1, 1) := by decide +kernel
theorem dX8_value_1 : decode cX8_value 1 = .ok (.iconst 4, 1) := by decide +kernel
theorem dX8_value_2 : decode cX8_value 2 = .ok (.if_icmp .ne 10, 3) := by decide +kernel
theorem dX8_value_5 : decode cX8_value 5 = .ok (.aload_n 0, 1) := by decide +kernel
theorem dX8_value_6 : decode cX8_value 6 = .ok (.getfield 9, 3) := by decide +kernel
theorem dX8_value_9 : decode cX8_value 9 = .ok (.goto 7, 3) := by decide +kernel
theorem dX8_value_12 : decode cX8_value 12 = .ok (.aload_n 0, 1) := by decide +kernel
theorem dX8_value_13 : decode cX8_value 13 = .ok (.getfield 15, 3) := by decide +kernel
theorem dX8_value_16 : decode cX8_value 16 = .ok (.ireturn, 1) := by decide +kernel
theorem dX8_change_0 : decode cX8_change 0 = .ok (.aload_n 0, 1) := by decide +kernel
theorem dX8_change_1 : decode cX8_change 1 = .ok (.iload_n 1, 1) := by decide +kernel
theorem dX8_change_2 : decode cX8_change 2 = .ok (.invokevirtual 18, 3) := by decide +kernel
theorem dX8_change_5 : decode cX8_change 5 = .ok (.istore_n 3, 1) := by decide +kernel
theorem dX8_change_6 : decode cX8_change 6 = .ok (.iload_n 1, 1) := by decide +kernel
theorem dX8_change_7 : decode cX8_change 7 = .ok (.iconst 4, 1) := by decide +kernel
theorem dX8_change_8 : decode cX8_change 8 = .ok (.if_icmp .ne 11, 3) := by decide +kernel
theorem dX8_change_11 : decode cX8_change 11 = .ok (.aload_n 0, 1) := by decide +kernel
theorem dX8_change_12 : decode cX8_change 12 = .ok (.iload_n 2, 1) := by decide +kernel
theorem dX8_change_13 : decode cX8_change 13 = .ok (.putfield 9, 3) := by decide +kernel
theorem dX8_change_16 : decode cX8_change 16 = .ok (.goto 8, 3) := by decide +kernel
theorem dX8_change_19 : decode cX8_change 19 = .ok (.aload_n 0, 1) := by decide +kernel
theorem dX8_change_20 : decode cX8_change 20 = .ok (.iload_n 2, 1) := by decide +kernel
theorem dX8_change_21 : decode cX8_change 21 = .ok (.putfield 15, 3) := by decide +kernel
theorem dX8_change_24 : decode cX8_change 24 = .ok (.iload_n 3, 1) := by decide +kernel
theorem dX8_change_25 : decode cX8_change 25 = .ok (.ireturn, 1) := by decide +kernel
theorem dX9_init_0 : decode cX9_init 0 = .ok (.aload_n 0, 1) := by decide +kernel
theorem dX9_init_1 : decode cX9_init 1 = .ok (.invokespecial 3, 3) := by decide +kernel
theorem dX9_init_4 : decode cX9_init 4 = .ok (.aload_n 0, 1) := by decide +kernel
theorem dX9_init_5 : decode cX9_init 5 = .ok (.sipush 160, 3) := by decide +kernel
theorem dX9_init_8 : decode cX9_init 8 = .ok (.newarray .int, 2) := by decide +kernel
theorem dX9_init_10 : decode cX9_init 10 = .ok (.putfield 9, 3) := by decide +kernel
theorem dX9_init_13 : decode cX9_init 13 = .ok (.aload_n 0, 1) := by decide +kernel
theorem dX9_init_14 : decode cX9_init 14 = .ok (.iconst 0, 1) := by decide +kernel
theorem dX9_init_15 : decode cX9_init 15 = .ok (.putfield 15, 3) := by decide +kernel
theorem dX9_init_18 : decode cX9_init 18 = .ok (.aload_n 0, 1) := by decide +kernel
theorem dX9_init_19 : decode cX9_init 19 = .ok (.aconst_null, 1) := by decide +kernel
theorem dX9_init_20 : decode cX9_init 20 = .ok (.putfield 19, 3) := by decide +kernel
theorem dX9_init_23 : decode cX9_init 23 = .ok (.aload_n 0, 1) := by decide +kernel
theorem dX9_init_24 : decode cX9_init 24 = .ok (.iconst 0, 1) := by decide +kernel
theorem dX9_init_25 : decode cX9_init 25 = .ok (.putfield 23, 3) := by decide +kernel
theorem dX9_init_28 : decode cX9_init 28 = .ok (.aload_n 0, 1) := by decide +kernel
theorem dX9_init_29 : decode cX9_init 29 = .ok (.iconst 0, 1) := by decide +kernel
theorem dX9_init_30 : decode cX9_init 30 = .ok (.putfield 26, 3) := by decide +kernel
theorem dX9_init_33 : decode cX9_init 33 = .ok (.aload_n 0, 1) := by decide +kernel
theorem dX9_init_34 : decode cX9_init 34 = .ok (.iconst 0, 1) := by decide +kernel
theorem dX9_init_35 : decode cX9_init 35 = .ok (.putfield 29, 3) := by decide +kernel
theorem dX9_init_38 : decode cX9_init 38 = .ok (.aload_n 0, 1) := by decide +kernel
theorem dX9_init_39 : decode cX9_init 39 = .ok (.iconst 0, 1) := by decide +kernel
theorem dX9_init_40 : decode cX9_init 40 = .ok (.putfield 32, 3) := by decide +kernel
theorem dX9_init_43 : decode cX9_init 43 = .ok (.aload_n 0, 1) := by decide +kernel
theorem dX9_init_44 : decode cX9_init 44 = .ok (.iconst (-1), 1) := by decide +kernel
theorem dX9_init_45 : decode cX9_init 45 = .ok (.putfield 35, 3) := by decide +kernel
theorem dX9_init_48 : decode cX9_init 48 = .ok (.return_, 1) := by decide +kernel
theorem dX9_add_0 : decode cX9_add 0 = .ok (.aload_n 0, 1) := by decide +kernel
theorem dX9_add_1 : decode cX9_add 1 = .ok (.getfield 15, 3) := by decide +kernel
theorem dX9_add_4 : decode cX9_add 4 = .ok (.aload_n 0, 1) := by decide +kernel
theorem dX9_add_5 : decode cX9_add 5 = .ok (.getfield 9, 3) := by decide +kernel
theorem dX9_add_8 : decode cX9_add 8 = .ok (.arraylength, 1) := by decide +kernel
theorem dX9_add_9 : decode cX9_add 9 = .ok (.if_icmp .lt 5, 3) := by decide +kernel
theorem dX9_add_12 : decode cX9_add 12 = .ok (.iconst 0, 1) := by decide +kernel
theorem dX9_add_13 : decode cX9_add 13 = .ok (.ireturn, 1) := by decide +kernel
theorem dX9_add_14 : decode cX9_add 14 = .ok (.aload_n 0, 1) := by decide +kernel
theorem dX9_add_15 : decode cX9_add 15 = .ok (.getfield 9, 3) := by decide +kernel
theorem dX9_add_18 : decode cX9_add 18 = .ok (.aload_n 0, 1) := by decide +kernel
theorem dX9_add_19 : decode cX9_add 19 = .ok (.getfield 15, 3) := by decide +kernel
theorem dX9_add_22 : decode cX9_add 22 = .ok (.iload_n 1, 1) := by decide +kernel
theorem dX9_add_23 : decode cX9_add 23 = .ok (.iastore, 1) := by decide +kernel
theorem dX9_add_24 : decode cX9_add 24 = .ok (.aload_n 0, 1) := by decide +kernel
theorem dX9_add_25 : decode cX9_add 25 = .ok (.dup, 1) := by decide +kernel
theorem dX9_add_26 : decode cX9_add 26 = .ok (.getfield 15, 3) := by decide +kernel
theorem dX9_add_29 : decode cX9_add 29 = .ok (.iconst 1, 1) := by decide +kernel
theorem dX9_add_30 : decode cX9_add 30 = .ok (.iadd, 1) := by decide +kernel
theorem dX9_add_31 : decode cX9_add 31 = .ok (.putfield 15, 3) := by decide +kernel
theorem dX9_add_34 : decode cX9_add 34 = .ok (.iconst 1, 1) := by decide +kernel
theorem dX9_add_35 : decode cX9_add 35 = .ok (.ireturn, 1) := by decide +kernel
theorem dX9_write_0 : decode cX9_write 0 = .ok (.iconst 0, 1) := by decide +kernel
theorem dX9_write_1 : decode cX9_write 1 = .ok (.istore_n 2, 1) := by decide +kernel
theorem dX9_write_2 : decode cX9_write 2 = .ok (.iload_n 2, 1) := by decide +kernel
theorem dX9_write_3 : decode cX9_write 3 = .ok (.aload_n 1, 1) := by decide +kernel
theorem dX9_write_4 : decode cX9_write 4 = .ok (.invokevirtual 38, 3) := by decide +kernel
theorem dX9_write_7 : decode cX9_write 7 = .ok (.if_icmp .ge 19, 3) := by decide +kernel
theorem dX9_write_10 : decode cX9_write 10 = .ok (.aload_n 0, 1) := by decide +kernel
theorem dX9_write_11 : decode cX9_write 11 = .ok (.aload_n 1, 1) := by decide +kernel
theorem dX9_write_12 : decode cX9_write 12 = .ok (.iload_n 2, 1) := by decide +kernel
theorem dX9_write_13 : decode cX9_write 13 = .ok (.invokevirtual 44, 3) := by decide +kernel
theorem dX9_write_16 : decode cX9_write 16 = .ok (.invokevirtual 48, 3) := by decide +kernel
theorem dX9_write_19 : decode cX9_write 19 = .ok (.pop, 1) := by decide +kernel
theorem dX9_write_20 : decode cX9_write 20 = .ok (.iinc 2 1, 3) := by decide +kernel
theorem dX9_write_23 : decode cX9_write 23 = .ok (.goto (-21), 3) := by decide +kernel
theorem dX9_write_26 : decode cX9_write 26 = .ok (.return_, 1) := by decide +kernel
theorem dX9_readInto_0 : decode cX9_readInto 0 = .ok (.aload_n 0, 1) := by decide +kernel
theorem dX9_readInto_1 : decode cX9_readInto 1 = .ok (.aload_n 1, 1) := by decide +kernel
theorem dX9_readInto_2 : decode cX9_readInto 2 = .ok (.putfield 19, 3) := by decide +kernel
theorem dX9_readInto_5 : decode cX9_readInto 5 = .ok (.aload_n 1, 1) := by decide +kernel
theorem dX9_readInto_6 : decode cX9_readInto 6 = .ok (.invokevirtual 52, 3) := by decide +kernel
theorem dX9_readInto_9 : decode cX9_readInto 9 = .ok (.aload_n 0, 1) := by decide +kernel
theorem dX9_readInto_10 : decode cX9_readInto 10 = .ok (.iconst 0, 1) := by decide +kernel
theorem dX9_readInto_11 : decode cX9_readInto 11 = .ok (.putfield 23, 3) := by decide +kernel
theorem dX9_readInto_14 : decode cX9_readInto 14 = .ok (.aload_n 0, 1) := by decide +kernel
theorem dX9_readInto_15 : decode cX9_readInto 15 = .ok (.iconst (-1), 1) := by decide +kernel
theorem dX9_readInto_16 : decode cX9_readInto 16 = .ok (.putfield 35, 3) := by decide +kernel
theorem dX9_readInto_19 : decode cX9_readInto 19 = .ok (.aload_n 0, 1) := by decide +kernel
theorem dX9_readInto_20 : decode cX9_readInto 20 = .ok (.invokevirtual 57, 3) := by decide +kernel
theorem dX9_readInto_23 : decode cX9_readInto 23 = .ok (.iconst 0, 1) := by decide +kernel
theorem dX9_readInto_24 : decode cX9_readInto 24 = .ok (.istore_n 2, 1) := by decide +kernel
theorem dX9_readInto_25 : decode cX9_readInto 25 = .ok (.iload_n 2, 1) := by decide +kernel
theorem dX9_readInto_26 : decode cX9_readInto 26 = .ok (.iconst 2, 1) := by decide +kernel
theorem dX9_readInto_27 : decode cX9_readInto 27 = .ok (.if_icmp .gt 32, 3) := by decide +kernel
theorem dX9_readInto_30 : decode cX9_readInto 30 = .ok (.aload_n 0, 1) := by decide +kernel
theorem dX9_readInto_31 : decode cX9_readInto 31 = .ok (.iconst 3, 1) := by decide +kernel
theorem dX9_readInto_32 : decode cX9_readInto 32 = .ok (.iload_n 2, 1) := by decide +kernel
theorem dX9_readInto_33 : decode cX9_readInto 33 = .ok (.iadd, 1) := by decide +kernel
theorem dX9_readInto_34 : decode cX9_readInto 34 = .ok (.invokevirtual 60, 3) := by decide +kernel
theorem dX9_readInto_37 : decode cX9_readInto 37 = .ok (.aload_n 0, 1) := by decide +kernel
theorem dX9_readInto_38 : decode cX9_readInto 38 = .ok (.iconst 0, 1) := by decide +kernel
theorem dX9_readInto_39 : decode cX9_readInto 39 = .ok (.invokevirtual 64, 3) := by decide +kernel
theorem dX9_readInto_42 : decode cX9_readInto 42 = .ok (.aload_n 0, 1) := by decide +kernel
theorem dX9_readInto_43 : decode cX9_readInto 43 = .ok (.bipush 59, 2) := by decide +kernel
theorem dX9_readInto_45 : decode cX9_readInto 45 = .ok (.invokevirtual 60, 3) := by decide +kernel
theorem dX9_readInto_48 : decode cX9_readInto 48 = .ok (.aload_n 1, 1) := by decide +kernel
theorem dX9_readInto_49 : decode cX9_readInto 49 = .ok (.iload_n 2, 1) := by decide +kernel
theorem dX9_readInto_50 : decode cX9_readInto 50 = .ok (.invokevirtual 67, 3) := by decide +kernel
theorem dX9_readInto_53 : decode cX9_readInto 53 = .ok (.iinc 2 1, 3) := by decide +kernel
theorem dX9_readInto_56 : decode cX9_readInto 56 = .ok (.goto (-31), 3) := by decide +kernel
theorem dX9_readInto_59 : decode cX9_readInto 59 = .ok (.aload_n 0, 1) := by decide +kernel
theorem dX9_readInto_60 : decode cX9_readInto 60 = .ok (.getfield 29, 3) := by decide +kernel
theorem dX9_readInto_63 : decode cX9_readInto 63 = .ok (.ifCond .eq 7, 3) := by decide +kernel
theorem dX9_readInto_66 : decode cX9_readInto 66 = .ok (.aload_n 0, 1) := by decide +kernel
theorem dX9_readInto_67 : decode cX9_readInto 67 = .ok (.invokevirtual 70, 3) := by decide +kernel
theorem dX9_readInto_70 : decode cX9_readInto 70 = .ok (.aload_n 0, 1) := by decide +kernel
theorem dX9_readInto_71 : decode cX9_readInto 71 = .ok (.getfield 35, 3) := by decide +kernel
theorem dX9_readInto_74 : decode cX9_readInto 74 = .ok (.ireturn, 1) := by decide +kernel
theorem dX9_fail_0 : decode cX9_fail 0 = .ok (.aload_n 0, 1) := by decide +kernel
theorem dX9_fail_1 : decode cX9_fail 1 = .ok (.aload_n 0, 1) := by decide +kernel
theorem dX9_fail_2 : decode cX9_fail 2 = .ok (.getfield 26, 3) := by decide +kernel
theorem dX9_fail_5 : decode cX9_fail 5 = .ok (.putfield 35, 3) := by decide +kernel
theorem dX9_fail_8 : decode cX9_fail 8 = .ok (.aload_n 0, 1) := by decide +kernel
theorem dX9_fail_9 : decode cX9_fail 9 = .ok (.bipush 9, 2) := by decide +kernel
theorem dX9_fail_11 : decode cX9_fail 11 = .ok (.putfield 29, 3) := by decide +kernel
theorem dX9_fail_14 : decode cX9_fail 14 = .ok (.return_, 1) := by decide +kernel
theorem dX9_expect_0 : decode cX9_expect 0 = .ok (.aload_n 0, 1) := by decide +kernel
theorem dX9_expect_1 : decode cX9_expect 1 = .ok (.getfield 29, 3) := by decide +kernel
theorem dX9_expect_4 : decode cX9_expect 4 = .ok (.iload_n 1, 1) := by decide +kernel
theorem dX9_expect_5 : decode cX9_expect 5 = .ok (.if_icmp .ne 10, 3) := by decide +kernel
theorem dX9_expect_8 : decode cX9_expect 8 = .ok (.aload_n 0, 1) := by decide +kernel
theorem dX9_expect_9 : decode cX9_expect 9 = .ok (.invokevirtual 57, 3) := by decide +kernel
theorem dX9_expect_12 : decode cX9_expect 12 = .ok (.goto 7, 3) := by decide +kernel
theorem dX9_expect_15 : decode cX9_expect 15 = .ok (.aload_n 0, 1) := by decide +kernel
theorem dX9_expect_16 : decode cX9_expect 16 = .ok (.invokevirtual 70, 3) := by decide +kernel
theorem dX9_expect_19 : decode cX9_expect 19 = .ok (.return_, 1) := by decide +kernel
theorem dX9_emit_0 : decode cX9_emit 0 = .ok (.aload_n 0, 1) := by decide +kernel
theorem dX9_emit_1 : decode cX9_emit 1 = .ok (.getfield 19, 3) := by decide +kernel
theorem dX9_emit_4 : decode cX9_emit 4 = .ok (.ifnull 11, 3) := by decide +kernel
theorem dX9_emit_7 : decode cX9_emit 7 = .ok (.aload_n 0, 1) := by decide +kernel
theorem dX9_emit_8 : decode cX9_emit 8 = .ok (.getfield 19, 3) := by decide +kernel
theorem dX9_emit_11 : decode cX9_emit 11 = .ok (.iload_n 1, 1) := by decide +kernel
theorem dX9_emit_12 : decode cX9_emit 12 = .ok (.invokevirtual 73, 3) := by decide +kernel
theorem dX9_emit_15 : decode cX9_emit 15 = .ok (.return_, 1) := by decide +kernel
theorem dX9_readEither_0 : decode cX9_readEither 0 = .ok (.aload_n 0, 1) := by decide +kernel
theorem dX9_readEither_1 : decode cX9_readEither 1 = .ok (.iload_n 1, 1) := by decide +kernel
theorem dX9_readEither_2 : decode cX9_readEither 2 = .ok (.invokevirtual 75, 3) := by decide +kernel
theorem dX9_readEither_5 : decode cX9_readEither 5 = .ok (.iconst 0, 1) := by decide +kernel
theorem dX9_readEither_6 : decode cX9_readEither 6 = .ok (.istore_n 2, 1) := by decide +kernel
theorem dX9_readEither_7 : decode cX9_readEither 7 = .ok (.iload_n 2, 1) := by decide +kernel
theorem dX9_readEither_8 : decode cX9_readEither 8 = .ok (.sipush 160, 3) := by decide +kernel
theorem dX9_readEither_11 : decode cX9_readEither 11 = .ok (.if_icmp .ge 33, 3) := by decide +kernel
theorem dX9_readEither_14 : decode cX9_readEither 14 = .ok (.aload_n 0, 1) := by decide +kernel
theorem dX9_readEither_15 : decode cX9_readEither 15 = .ok (.getfield 29, 3) := by decide +kernel
theorem dX9_readEither_18 : decode cX9_readEither 18 = .ok (.bipush 6, 2) := by decide +kernel
theorem dX9_readEither_20 : decode cX9_readEither 20 = .ok (.if_icmp .ne 24, 3) := by decide +kernel
theorem dX9_readEither_23 : decode cX9_readEither 23 = .ok (.aload_n 0, 1) := by decide +kernel
theorem dX9_readEither_24 : decode cX9_readEither 24 = .ok (.invokevirtual 57, 3) := by decide +kernel
theorem dX9_readEither_27 : decode cX9_readEither 27 = .ok (.aload_n 0, 1) := by decide +kernel
theorem dX9_readEither_28 : decode cX9_readEither 28 = .ok (.iload_n 1, 1) := by decide +kernel
theorem dX9_readEither_29 : decode cX9_readEither 29 = .ok (.invokevirtual 75, 3) := by decide +kernel
theorem dX9_readEither_32 : decode cX9_readEither 32 = .ok (.aload_n 0, 1) := by decide +kernel
theorem dX9_readEither_33 : decode cX9_readEither 33 = .ok (.bipush (-9), 2) := by decide +kernel
theorem dX9_readEither_35 : decode cX9_readEither 35 = .ok (.invokevirtual 78, 3) := by decide +kernel
theorem dX9_readEither_38 : decode cX9_readEither 38 = .ok (.iinc 2 1, 3) := by decide +kernel
theorem dX9_readEither_41 : decode cX9_readEither 41 = .ok (.goto (-34), 3) := by decide +kernel
theorem dX9_readEither_44 : decode cX9_readEither 44 = .ok (.return_, 1) := by decide +kernel
theorem dX9_readBoth_0 : decode cX9_readBoth 0 = .ok (.aload_n 0, 1) := by decide +kernel
theorem dX9_readBoth_1 : decode cX9_readBoth 1 = .ok (.iload_n 1, 1) := by decide +kernel
theorem dX9_readBoth_2 : decode cX9_readBoth 2 = .ok (.invokevirtual 81, 3) := by decide +kernel
theorem dX9_readBoth_5 : decode cX9_readBoth 5 = .ok (.iconst 0, 1) := by decide +kernel
theorem dX9_readBoth_6 : decode cX9_readBoth 6 = .ok (.istore_n 2, 1) := by decide +kernel
theorem dX9_readBoth_7 : decode cX9_readBoth 7 = .ok (.iload_n 2, 1) := by decide +kernel
theorem dX9_readBoth_8 : decode cX9_readBoth 8 = .ok (.sipush 160, 3) := by decide +kernel
theorem dX9_readBoth_11 : decode cX9_readBoth 11 = .ok (.if_icmp .ge 33, 3) := by decide +kernel
theorem dX9_readBoth_14 : decode cX9_readBoth 14 = .ok (.aload_n 0, 1) := by decide +kernel
theorem dX9_readBoth_15 : decode cX9_readBoth 15 = .ok (.getfield 29, 3) := by decide +kernel
theorem dX9_readBoth_18 : decode cX9_readBoth 18 = .ok (.bipush 7, 2) := by decide +kernel
theorem dX9_readBoth_20 : decode cX9_readBoth 20 = .ok (.if_icmp .ne 24, 3) := by decide +kernel
theorem dX9_readBoth_23 : decode cX9_readBoth 23 = .ok (.aload_n 0, 1) := by decide +kernel
theorem dX9_readBoth_24 : decode cX9_readBoth 24 = .ok (.invokevirtual 57, 3) := by decide +kernel
theorem dX9_readBoth_27 : decode cX9_readBoth 27 = .ok (.aload_n 0, 1) := by decide +kernel
theorem dX9_readBoth_28 : decode cX9_readBoth 28 = .ok (.iload_n 1, 1) := by decide +kernel
theorem dX9_readBoth_29 : decode cX9_readBoth 29 = .ok (.invokevirtual 81, 3) := by decide +kernel
theorem dX9_readBoth_32 : decode cX9_readBoth 32 = .ok (.aload_n 0, 1) := by decide +kernel
theorem dX9_readBoth_33 : decode cX9_readBoth 33 = .ok (.bipush (-10), 2) := by decide +kernel
theorem dX9_readBoth_35 : decode cX9_readBoth 35 = .ok (.invokevirtual 78, 3) := by decide +kernel
theorem dX9_readBoth_38 : decode cX9_readBoth 38 = .ok (.iinc 2 1, 3) := by decide +kernel
theorem dX9_readBoth_41 : decode cX9_readBoth 41 = .ok (.goto (-34), 3) := by decide +kernel
theorem dX9_readBoth_44 : decode cX9_readBoth 44 = .ok (.return_, 1) := by decide +kernel
theorem dX9_readNot_0 : decode cX9_readNot 0 = .ok (.aload_n 0, 1) := by decide +kernel
theorem dX9_readNot_1 : decode cX9_readNot 1 = .ok (.getfield 29, 3) := by decide +kernel
theorem dX9_readNot_4 : decode cX9_readNot 4 = .ok (.bipush 8, 2) := by decide +kernel
theorem dX9_readNot_6 : decode cX9_readNot 6 = .ok (.if_icmp .ne 25, 3) := by decide +kernel
theorem dX9_readNot_9 : decode cX9_readNot 9 = .ok (.aload_n 0, 1) := by decide +kernel
theorem dX9_readNot_10 : decode cX9_readNot 10 = .ok (.iload_n 1, 1) := by decide +kernel
theorem dX9_readNot_11 : decode cX9_readNot 11 = .ok (.invokevirtual 84, 3) := by decide +kernel
theorem dX9_readNot_14 : decode cX9_readNot 14 = .ok (.ifCond .eq 16, 3) := by decide +kernel
theorem dX9_readNot_17 : decode cX9_readNot 17 = .ok (.aload_n 0, 1) := by decide +kernel
theorem dX9_readNot_18 : decode cX9_readNot 18 = .ok (.iload_n 1, 1) := by decide +kernel
theorem dX9_readNot_19 : decode cX9_readNot 19 = .ok (.iconst 1, 1) := by decide +kernel
theorem dX9_readNot_20 : decode cX9_readNot 20 = .ok (.iadd, 1) := by decide +kernel
theorem dX9_readNot_21 : decode cX9_readNot 21 = .ok (.invokevirtual 81, 3) := by decide +kernel
theorem dX9_readNot_24 : decode cX9_readNot 24 = .ok (.aload_n 0, 1) := by decide +kernel
theorem dX9_readNot_25 : decode cX9_readNot 25 = .ok (.bipush (-7), 2) := by decide +kernel
theorem dX9_readNot_27 : decode cX9_readNot 27 = .ok (.invokevirtual 78, 3) := by decide +kernel
theorem dX9_readNot_30 : decode cX9_readNot 30 = .ok (.return_, 1) := by decide +kernel
theorem dX9_readNot_31 : decode cX9_readNot 31 = .ok (.aload_n 0, 1) := by decide +kernel
theorem dX9_readNot_32 : decode cX9_readNot 32 = .ok (.iload_n 1, 1) := by decide +kernel
theorem dX9_readNot_33 : decode cX9_readNot 33 = .ok (.invokevirtual 87, 3) := by decide +kernel
theorem dX9_readNot_36 : decode cX9_readNot 36 = .ok (.aload_n 0, 1) := by decide +kernel
theorem dX9_readNot_37 : decode cX9_readNot 37 = .ok (.getfield 29, 3) := by decide +kernel
theorem dX9_readNot_40 : decode cX9_readNot 40 = .ok (.bipush 60, 2) := by decide +kernel
theorem dX9_readNot_42 : decode cX9_readNot 42 = .ok (.if_icmp .eq 12, 3) := by decide +kernel
theorem dX9_readNot_45 : decode cX9_readNot 45 = .ok (.aload_n 0, 1) := by decide +kernel
theorem dX9_readNot_46 : decode cX9_readNot 46 = .ok (.getfield 29, 3) := by decide +kernel
theorem dX9_readNot_49 : decode cX9_readNot 49 = .ok (.bipush 61, 2) := by decide +kernel
theorem dX9_readNot_51 : decode cX9_readNot 51 = .ok (.if_icmp .ne 34, 3) := by decide +kernel
theorem dX9_readNot_54 : decode cX9_readNot 54 = .ok (.aload_n 0, 1) := by decide +kernel
theorem dX9_readNot_55 : decode cX9_readNot 55 = .ok (.getfield 29, 3) := by decide +kernel
theorem dX9_readNot_58 : decode cX9_readNot 58 = .ok (.bipush 60, 2) := by decide +kernel
theorem dX9_readNot_60 : decode cX9_readNot 60 = .ok (.if_icmp .ne 8, 3) := by decide +kernel
theorem dX9_readNot_63 : decode cX9_readNot 63 = .ok (.bipush (-11), 2) := by decide +kernel
theorem dX9_readNot_65 : decode cX9_readNot 65 = .ok (.goto 5, 3) := by decide +kernel
theorem dX9_readNot_68 : decode cX9_readNot 68 = .ok (.bipush (-12), 2) := by decide +kernel
theorem dX9_readNot_70 : decode cX9_readNot 70 = .ok (.istore_n 2, 1) := by decide +kernel
theorem dX9_readNot_71 : decode cX9_readNot 71 = .ok (.aload_n 0, 1) := by decide +kernel
theorem dX9_readNot_72 : decode cX9_readNot 72 = .ok (.invokevirtual 57, 3) := by decide +kernel
theorem dX9_readNot_75 : decode cX9_readNot 75 = .ok (.aload_n 0, 1) := by decide +kernel
theorem dX9_readNot_76 : decode cX9_readNot 76 = .ok (.iload_n 1, 1) := by decide +kernel
theorem dX9_readNot_77 : decode cX9_readNot 77 = .ok (.invokevirtual 87, 3) := by decide +kernel
theorem dX9_readNot_80 : decode cX9_readNot 80 = .ok (.aload_n 0, 1) := by decide +kernel
theorem dX9_readNot_81 : decode cX9_readNot 81 = .ok (.iload_n 2, 1) := by decide +kernel
theorem dX9_readNot_82 : decode cX9_readNot 82 = .ok (.invokevirtual 78, 3) := by decide +kernel
theorem dX9_readNot_85 : decode cX9_readNot 85 = .ok (.return_, 1) := by decide +kernel
theorem dX9_readSum_0 : decode cX9_readSum 0 = .ok (.aload_n 0, 1) := by decide +kernel
theorem dX9_readSum_1 : decode cX9_readSum 1 = .ok (.iload_n 1, 1) := by decide +kernel
theorem dX9_readSum_2 : decode cX9_readSum 2 = .ok (.invokevirtual 90, 3) := by decide +kernel
theorem dX9_readSum_5 : decode cX9_readSum 5 = .ok (.iconst 0, 1) := by decide +kernel
theorem dX9_readSum_6 : decode cX9_readSum 6 = .ok (.istore_n 2, 1) := by decide +kernel
theorem dX9_readSum_7 : decode cX9_readSum 7 = .ok (.iload_n 2, 1) := by decide +kernel
theorem dX9_readSum_8 : decode cX9_readSum 8 = .ok (.sipush 160, 3) := by decide +kernel
theorem dX9_readSum_11 : decode cX9_readSum 11 = .ok (.if_icmp .ge 58, 3) := by decide +kernel
theorem dX9_readSum_14 : decode cX9_readSum 14 = .ok (.aload_n 0, 1) := by decide +kernel
theorem dX9_readSum_15 : decode cX9_readSum 15 = .ok (.getfield 29, 3) := by decide +kernel
theorem dX9_readSum_18 : decode cX9_readSum 18 = .ok (.bipush 43, 2) := by decide +kernel
theorem dX9_readSum_20 : decode cX9_readSum 20 = .ok (.if_icmp .eq 12, 3) := by decide +kernel
theorem dX9_readSum_23 : decode cX9_readSum 23 = .ok (.aload_n 0, 1) := by decide +kernel
theorem dX9_readSum_24 : decode cX9_readSum 24 = .ok (.getfield 29, 3) := by decide +kernel
theorem dX9_readSum_27 : decode cX9_readSum 27 = .ok (.bipush 45, 2) := by decide +kernel
theorem dX9_readSum_29 : decode cX9_readSum 29 = .ok (.if_icmp .ne 40, 3) := by decide +kernel
theorem dX9_readSum_32 : decode cX9_readSum 32 = .ok (.aload_n 0, 1) := by decide +kernel
theorem dX9_readSum_33 : decode cX9_readSum 33 = .ok (.getfield 29, 3) := by decide +kernel
theorem dX9_readSum_36 : decode cX9_readSum 36 = .ok (.bipush 43, 2) := by decide +kernel
theorem dX9_readSum_38 : decode cX9_readSum 38 = .ok (.if_icmp .ne 8, 3) := by decide +kernel
theorem dX9_readSum_41 : decode cX9_readSum 41 = .ok (.bipush (-13), 2) := by decide +kernel
theorem dX9_readSum_43 : decode cX9_readSum 43 = .ok (.goto 5, 3) := by decide +kernel
theorem dX9_readSum_46 : decode cX9_readSum 46 = .ok (.bipush (-14), 2) := by decide +kernel
theorem dX9_readSum_48 : decode cX9_readSum 48 = .ok (.istore_n 3, 1) := by decide +kernel
theorem dX9_readSum_49 : decode cX9_readSum 49 = .ok (.aload_n 0, 1) := by decide +kernel
theorem dX9_readSum_50 : decode cX9_readSum 50 = .ok (.invokevirtual 57, 3) := by decide +kernel
theorem dX9_readSum_53 : decode cX9_readSum 53 = .ok (.aload_n 0, 1) := by decide +kernel
theorem dX9_readSum_54 : decode cX9_readSum 54 = .ok (.iload_n 1, 1) := by decide +kernel
theorem dX9_readSum_55 : decode cX9_readSum 55 = .ok (.invokevirtual 90, 3) := by decide +kernel
theorem dX9_readSum_58 : decode cX9_readSum 58 = .ok (.aload_n 0, 1) := by decide +kernel
theorem dX9_readSum_59 : decode cX9_readSum 59 = .ok (.iload_n 3, 1) := by decide +kernel
theorem dX9_readSum_60 : decode cX9_readSum 60 = .ok (.invokevirtual 78, 3) := by decide +kernel
theorem dX9_readSum_63 : decode cX9_readSum 63 = .ok (.iinc 2 1, 3) := by decide +kernel
theorem dX9_readSum_66 : decode cX9_readSum 66 = .ok (.goto (-59), 3) := by decide +kernel
theorem dX9_readSum_69 : decode cX9_readSum 69 = .ok (.return_, 1) := by decide +kernel
theorem dX9_readTerm_0 : decode cX9_readTerm 0 = .ok (.aload_n 0, 1) := by decide +kernel
theorem dX9_readTerm_1 : decode cX9_readTerm 1 = .ok (.iload_n 1, 1) := by decide +kernel
theorem dX9_readTerm_2 : decode cX9_readTerm 2 = .ok (.invokevirtual 93, 3) := by decide +kernel
theorem dX9_readTerm_5 : decode cX9_readTerm 5 = .ok (.iconst 0, 1) := by decide +kernel
theorem dX9_readTerm_6 : decode cX9_readTerm 6 = .ok (.istore_n 2, 1) := by decide +kernel
theorem dX9_readTerm_7 : decode cX9_readTerm 7 = .ok (.iload_n 2, 1) := by decide +kernel
theorem dX9_readTerm_8 : decode cX9_readTerm 8 = .ok (.sipush 160, 3) := by decide +kernel
theorem dX9_readTerm_11 : decode cX9_readTerm 11 = .ok (.if_icmp .ge 33, 3) := by decide +kernel
theorem dX9_readTerm_14 : decode cX9_readTerm 14 = .ok (.aload_n 0, 1) := by decide +kernel
theorem dX9_readTerm_15 : decode cX9_readTerm 15 = .ok (.getfield 29, 3) := by decide +kernel
theorem dX9_readTerm_18 : decode cX9_readTerm 18 = .ok (.bipush 42, 2) := by decide +kernel
theorem dX9_readTerm_20 : decode cX9_readTerm 20 = .ok (.if_icmp .ne 24, 3) := by decide +kernel
theorem dX9_readTerm_23 : decode cX9_readTerm 23 = .ok (.aload_n 0, 1) := by decide +kernel
theorem dX9_readTerm_24 : decode cX9_readTerm 24 = .ok (.invokevirtual 57, 3) := by decide +kernel
theorem dX9_readTerm_27 : decode cX9_readTerm 27 = .ok (.aload_n 0, 1) := by decide +kernel
theorem dX9_readTerm_28 : decode cX9_readTerm 28 = .ok (.iload_n 1, 1) := by decide +kernel
theorem dX9_readTerm_29 : decode cX9_readTerm 29 = .ok (.invokevirtual 93, 3) := by decide +kernel
theorem dX9_readTerm_32 : decode cX9_readTerm 32 = .ok (.aload_n 0, 1) := by decide +kernel
theorem dX9_readTerm_33 : decode cX9_readTerm 33 = .ok (.bipush (-15), 2) := by decide +kernel
theorem dX9_readTerm_35 : decode cX9_readTerm 35 = .ok (.invokevirtual 78, 3) := by decide +kernel
theorem dX9_readTerm_38 : decode cX9_readTerm 38 = .ok (.iinc 2 1, 3) := by decide +kernel
theorem dX9_readTerm_41 : decode cX9_readTerm 41 = .ok (.goto (-34), 3) := by decide +kernel
theorem dX9_readTerm_44 : decode cX9_readTerm 44 = .ok (.return_, 1) := by decide +kernel
theorem dX9_readOne_0 : decode cX9_readOne 0 = .ok (.aload_n 0, 1) := by decide +kernel
theorem dX9_readOne_1 : decode cX9_readOne 1 = .ok (.getfield 29, 3) := by decide +kernel
theorem dX9_readOne_4 : decode cX9_readOne 4 = .ok (.iconst 1, 1) := by decide +kernel
theorem dX9_readOne_5 : decode cX9_readOne 5 = .ok (.if_icmp .eq 11, 3) := by decide +kernel
theorem dX9_readOne_8 : decode cX9_readOne 8 = .ok (.aload_n 0, 1) := by decide +kernel
theorem dX9_readOne_9 : decode cX9_readOne 9 = .ok (.getfield 29, 3) := by decide +kernel
theorem dX9_readOne_12 : decode cX9_readOne 12 = .ok (.iconst 2, 1) := by decide +kernel
theorem dX9_readOne_13 : decode cX9_readOne 13 = .ok (.if_icmp .ne 18, 3) := by decide +kernel
theorem dX9_readOne_16 : decode cX9_readOne 16 = .ok (.aload_n 0, 1) := by decide +kernel
theorem dX9_readOne_17 : decode cX9_readOne 17 = .ok (.aload_n 0, 1) := by decide +kernel
theorem dX9_readOne_18 : decode cX9_readOne 18 = .ok (.getfield 32, 3) := by decide +kernel
theorem dX9_readOne_21 : decode cX9_readOne 21 = .ok (.invokevirtual 78, 3) := by decide +kernel
theorem dX9_readOne_24 : decode cX9_readOne 24 = .ok (.aload_n 0, 1) := by decide +kernel
theorem dX9_readOne_25 : decode cX9_readOne 25 = .ok (.invokevirtual 57, 3) := by decide +kernel
theorem dX9_readOne_28 : decode cX9_readOne 28 = .ok (.goto 73, 3) := by decide +kernel
theorem dX9_readOne_31 : decode cX9_readOne 31 = .ok (.aload_n 0, 1) := by decide +kernel
theorem dX9_readOne_32 : decode cX9_readOne 32 = .ok (.getfield 29, 3) := by decide +kernel
theorem dX9_readOne_35 : decode cX9_readOne 35 = .ok (.bipush 45, 2) := by decide +kernel
theorem dX9_readOne_37 : decode cX9_readOne 37 = .ok (.if_icmp .ne 27, 3) := by decide +kernel
theorem dX9_readOne_40 : decode cX9_readOne 40 = .ok (.aload_n 0, 1) := by decide +kernel
theorem dX9_readOne_41 : decode cX9_readOne 41 = .ok (.iload_n 1, 1) := by decide +kernel
theorem dX9_readOne_42 : decode cX9_readOne 42 = .ok (.invokevirtual 84, 3) := by decide +kernel
theorem dX9_readOne_45 : decode cX9_readOne 45 = .ok (.ifCond .eq 56, 3) := by decide +kernel
theorem dX9_readOne_48 : decode cX9_readOne 48 = .ok (.aload_n 0, 1) := by decide +kernel
theorem dX9_readOne_49 : decode cX9_readOne 49 = .ok (.iload_n 1, 1) := by decide +kernel
theorem dX9_readOne_50 : decode cX9_readOne 50 = .ok (.iconst 1, 1) := by decide +kernel
theorem dX9_readOne_51 : decode cX9_readOne 51 = .ok (.iadd, 1) := by decide +kernel
theorem dX9_readOne_52 : decode cX9_readOne 52 = .ok (.invokevirtual 93, 3) := by decide +kernel
theorem dX9_readOne_55 : decode cX9_readOne 55 = .ok (.aload_n 0, 1) := by decide +kernel
theorem dX9_readOne_56 : decode cX9_readOne 56 = .ok (.bipush (-8), 2) := by decide +kernel
theorem dX9_readOne_58 : decode cX9_readOne 58 = .ok (.invokevirtual 78, 3) := by decide +kernel
theorem dX9_readOne_61 : decode cX9_readOne 61 = .ok (.goto 40, 3) := by decide +kernel
theorem dX9_readOne_64 : decode cX9_readOne 64 = .ok (.aload_n 0, 1) := by decide +kernel
theorem dX9_readOne_65 : decode cX9_readOne 65 = .ok (.getfield 29, 3) := by decide +kernel
theorem dX9_readOne_68 : decode cX9_readOne 68 = .ok (.bipush 40, 2) := by decide +kernel
theorem dX9_readOne_70 : decode cX9_readOne 70 = .ok (.if_icmp .ne 27, 3) := by decide +kernel
theorem dX9_readOne_73 : decode cX9_readOne 73 = .ok (.aload_n 0, 1) := by decide +kernel
theorem dX9_readOne_74 : decode cX9_readOne 74 = .ok (.iload_n 1, 1) := by decide +kernel
theorem dX9_readOne_75 : decode cX9_readOne 75 = .ok (.invokevirtual 84, 3) := by decide +kernel
theorem dX9_readOne_78 : decode cX9_readOne 78 = .ok (.ifCond .eq 23, 3) := by decide +kernel
theorem dX9_readOne_81 : decode cX9_readOne 81 = .ok (.aload_n 0, 1) := by decide +kernel
theorem dX9_readOne_82 : decode cX9_readOne 82 = .ok (.iload_n 1, 1) := by decide +kernel
theorem dX9_readOne_83 : decode cX9_readOne 83 = .ok (.iconst 1, 1) := by decide +kernel
theorem dX9_readOne_84 : decode cX9_readOne 84 = .ok (.iadd, 1) := by decide +kernel
theorem dX9_readOne_85 : decode cX9_readOne 85 = .ok (.invokevirtual 64, 3) := by decide +kernel
theorem dX9_readOne_88 : decode cX9_readOne 88 = .ok (.aload_n 0, 1) := by decide +kernel
theorem dX9_readOne_89 : decode cX9_readOne 89 = .ok (.bipush 41, 2) := by decide +kernel
theorem dX9_readOne_91 : decode cX9_readOne 91 = .ok (.invokevirtual 60, 3) := by decide +kernel
theorem dX9_readOne_94 : decode cX9_readOne 94 = .ok (.goto 7, 3) := by decide +kernel
theorem dX9_readOne_97 : decode cX9_readOne 97 = .ok (.aload_n 0, 1) := by decide +kernel
theorem dX9_readOne_98 : decode cX9_readOne 98 = .ok (.invokevirtual 70, 3) := by decide +kernel
theorem dX9_readOne_101 : decode cX9_readOne 101 = .ok (.return_, 1) := by decide +kernel
theorem dX9_opens_0 : decode cX9_opens 0 = .ok (.iload_n 1, 1) := by decide +kernel
theorem dX9_opens_1 : decode cX9_opens 1 = .ok (.iconst 5, 1) := by decide +kernel
theorem dX9_opens_2 : decode cX9_opens 2 = .ok (.if_icmp .lt 9, 3) := by decide +kernel
theorem dX9_opens_5 : decode cX9_opens 5 = .ok (.aload_n 0, 1) := by decide +kernel
theorem dX9_opens_6 : decode cX9_opens 6 = .ok (.invokevirtual 70, 3) := by decide +kernel
theorem dX9_opens_9 : decode cX9_opens 9 = .ok (.iconst 0, 1) := by decide +kernel
theorem dX9_opens_10 : decode cX9_opens 10 = .ok (.ireturn, 1) := by decide +kernel
theorem dX9_opens_11 : decode cX9_opens 11 = .ok (.aload_n 0, 1) := by decide +kernel
theorem dX9_opens_12 : decode cX9_opens 12 = .ok (.invokevirtual 57, 3) := by decide +kernel
theorem dX9_opens_15 : decode cX9_opens 15 = .ok (.iconst 1, 1) := by decide +kernel
theorem dX9_opens_16 : decode cX9_opens 16 = .ok (.ireturn, 1) := by decide +kernel
theorem dX9_letterAt_0 : decode cX9_letterAt 0 = .ok (.iload_n 1, 1) := by decide +kernel
theorem dX9_letterAt_1 : decode cX9_letterAt 1 = .ok (.ifCond .lt 20, 3) := by decide +kernel
theorem dX9_letterAt_4 : decode cX9_letterAt 4 = .ok (.iload_n 1, 1) := by decide +kernel
theorem dX9_letterAt_5 : decode cX9_letterAt 5 = .ok (.aload_n 0, 1) := by decide +kernel
theorem dX9_letterAt_6 : decode cX9_letterAt 6 = .ok (.getfield 15, 3) := by decide +kernel
theorem dX9_letterAt_9 : decode cX9_letterAt 9 = .ok (.if_icmp .ge 12, 3) := by decide +kernel
theorem dX9_letterAt_12 : decode cX9_letterAt 12 = .ok (.iload_n 1, 1) := by decide +kernel
theorem dX9_letterAt_13 : decode cX9_letterAt 13 = .ok (.aload_n 0, 1) := by decide +kernel
theorem dX9_letterAt_14 : decode cX9_letterAt 14 = .ok (.getfield 9, 3) := by decide +kernel
theorem dX9_letterAt_17 : decode cX9_letterAt 17 = .ok (.arraylength, 1) := by decide +kernel
theorem dX9_letterAt_18 : decode cX9_letterAt 18 = .ok (.if_icmp .lt 7, 3) := by decide +kernel
theorem dX9_letterAt_21 : decode cX9_letterAt 21 = .ok (.iconst 0, 1) := by decide +kernel
theorem dX9_letterAt_22 : decode cX9_letterAt 22 = .ok (.goto 9, 3) := by decide +kernel
theorem dX9_letterAt_25 : decode cX9_letterAt 25 = .ok (.aload_n 0, 1) := by decide +kernel
theorem dX9_letterAt_26 : decode cX9_letterAt 26 = .ok (.getfield 9, 3) := by decide +kernel
theorem dX9_letterAt_29 : decode cX9_letterAt 29 = .ok (.iload_n 1, 1) := by decide +kernel
theorem dX9_letterAt_30 : decode cX9_letterAt 30 = .ok (.iaload, 1) := by decide +kernel
theorem dX9_letterAt_31 : decode cX9_letterAt 31 = .ok (.ireturn, 1) := by decide +kernel
theorem dX9_next_0 : decode cX9_next 0 = .ok (.aload_n 0, 1) := by decide +kernel
theorem dX9_next_1 : decode cX9_next 1 = .ok (.getfield 23, 3) := by decide +kernel
theorem dX9_next_4 : decode cX9_next 4 = .ok (.aload_n 0, 1) := by decide +kernel
theorem dX9_next_5 : decode cX9_next 5 = .ok (.getfield 15, 3) := by decide +kernel
theorem dX9_next_8 : decode cX9_next 8 = .ok (.if_icmp .ge 42, 3) := by decide +kernel
theorem dX9_next_11 : decode cX9_next 11 = .ok (.aload_n 0, 1) := by decide +kernel
theorem dX9_next_12 : decode cX9_next 12 = .ok (.aload_n 0, 1) := by decide +kernel
theorem dX9_next_13 : decode cX9_next 13 = .ok (.getfield 23, 3) := by decide +kernel
theorem dX9_next_16 : decode cX9_next 16 = .ok (.invokevirtual 96, 3) := by decide +kernel
theorem dX9_next_19 : decode cX9_next 19 = .ok (.bipush 32, 2) := by decide +kernel
theorem dX9_next_21 : decode cX9_next 21 = .ok (.if_icmp .eq 16, 3) := by decide +kernel
theorem dX9_next_24 : decode cX9_next 24 = .ok (.aload_n 0, 1) := by decide +kernel
theorem dX9_next_25 : decode cX9_next 25 = .ok (.aload_n 0, 1) := by decide +kernel
theorem dX9_next_26 : decode cX9_next 26 = .ok (.getfield 23, 3) := by decide +kernel
theorem dX9_next_29 : decode cX9_next 29 = .ok (.invokevirtual 96, 3) := by decide +kernel
theorem dX9_next_32 : decode cX9_next 32 = .ok (.bipush 10, 2) := by decide +kernel
theorem dX9_next_34 : decode cX9_next 34 = .ok (.if_icmp .ne 16, 3) := by decide +kernel
theorem dX9_next_37 : decode cX9_next 37 = .ok (.aload_n 0, 1) := by decide +kernel
theorem dX9_next_38 : decode cX9_next 38 = .ok (.dup, 1) := by decide +kernel
theorem dX9_next_39 : decode cX9_next 39 = .ok (.getfield 23, 3) := by decide +kernel
theorem dX9_next_42 : decode cX9_next 42 = .ok (.iconst 1, 1) := by decide +kernel
theorem dX9_next_43 : decode cX9_next 43 = .ok (.iadd, 1) := by decide +kernel
theorem dX9_next_44 : decode cX9_next 44 = .ok (.putfield 23, 3) := by decide +kernel
theorem dX9_next_47 : decode cX9_next 47 = .ok (.goto (-47), 3) := by decide +kernel
theorem dX9_next_50 : decode cX9_next 50 = .ok (.aload_n 0, 1) := by decide +kernel
theorem dX9_next_51 : decode cX9_next 51 = .ok (.aload_n 0, 1) := by decide +kernel
theorem dX9_next_52 : decode cX9_next 52 = .ok (.getfield 23, 3) := by decide +kernel
theorem dX9_next_55 : decode cX9_next 55 = .ok (.putfield 26, 3) := by decide +kernel
theorem dX9_next_58 : decode cX9_next 58 = .ok (.aload_n 0, 1) := by decide +kernel
theorem dX9_next_59 : decode cX9_next 59 = .ok (.aload_n 0, 1) := by decide +kernel
theorem dX9_next_60 : decode cX9_next 60 = .ok (.getfield 23, 3) := by decide +kernel
theorem dX9_next_63 : decode cX9_next 63 = .ok (.invokevirtual 96, 3) := by decide +kernel
theorem dX9_next_66 : decode cX9_next 66 = .ok (.istore_n 1, 1) := by decide +kernel
theorem dX9_next_67 : decode cX9_next 67 = .ok (.aload_n 0, 1) := by decide +kernel
theorem dX9_next_68 : decode cX9_next 68 = .ok (.getfield 23, 3) := by decide +kernel
theorem dX9_next_71 : decode cX9_next 71 = .ok (.aload_n 0, 1) := by decide +kernel
theorem dX9_next_72 : decode cX9_next 72 = .ok (.getfield 15, 3) := by decide +kernel
theorem dX9_next_75 : decode cX9_next 75 = .ok (.if_icmp .lt 11, 3) := by decide +kernel
theorem dX9_next_78 : decode cX9_next 78 = .ok (.aload_n 0, 1) := by decide +kernel
theorem dX9_next_79 : decode cX9_next 79 = .ok (.iconst 0, 1) := by decide +kernel
theorem dX9_next_80 : decode cX9_next 80 = .ok (.putfield 29, 3) := by decide +kernel
theorem dX9_next_83 : decode cX9_next 83 = .ok (.goto 58, 3) := by decide +kernel
theorem dX9_next_86 : decode cX9_next 86 = .ok (.iload_n 1, 1) := by decide +kernel
theorem dX9_next_87 : decode cX9_next 87 = .ok (.invokestatic 100, 3) := by decide +kernel
theorem dX9_next_90 : decode cX9_next 90 = .ok (.ifCond .eq 10, 3) := by decide +kernel
theorem dX9_next_93 : decode cX9_next 93 = .ok (.aload_n 0, 1) := by decide +kernel
theorem dX9_next_94 : decode cX9_next 94 = .ok (.invokevirtual 103, 3) := by decide +kernel
theorem dX9_next_97 : decode cX9_next 97 = .ok (.goto 44, 3) := by decide +kernel
theorem dX9_next_100 : decode cX9_next 100 = .ok (.iload_n 1, 1) := by decide +kernel
theorem dX9_next_101 : decode cX9_next 101 = .ok (.invokestatic 106, 3) := by decide +kernel
theorem dX9_next_104 : decode cX9_next 104 = .ok (.ifCond .eq 10, 3) := by decide +kernel
theorem dX9_next_107 : decode cX9_next 107 = .ok (.aload_n 0, 1) := by decide +kernel
theorem dX9_next_108 : decode cX9_next 108 = .ok (.invokevirtual 109, 3) := by decide +kernel
theorem dX9_next_111 : decode cX9_next 111 = .ok (.goto 30, 3) := by decide +kernel
theorem dX9_next_114 : decode cX9_next 114 = .ok (.aload_n 0, 1) := by decide +kernel
theorem dX9_next_115 : decode cX9_next 115 = .ok (.iload_n 1, 1) := by decide +kernel
theorem dX9_next_116 : decode cX9_next 116 = .ok (.invokestatic 112, 3) := by decide +kernel
theorem dX9_next_119 : decode cX9_next 119 = .ok (.ifCond .eq 7, 3) := by decide +kernel
theorem dX9_next_122 : decode cX9_next 122 = .ok (.iload_n 1, 1) := by decide +kernel
theorem dX9_next_123 : decode cX9_next 123 = .ok (.goto 5, 3) := by decide +kernel
theorem dX9_next_126 : decode cX9_next 126 = .ok (.bipush 9, 2) := by decide +kernel
theorem dX9_next_128 : decode cX9_next 128 = .ok (.putfield 29, 3) := by decide +kernel
theorem dX9_next_131 : decode cX9_next 131 = .ok (.aload_n 0, 1) := by decide +kernel
theorem dX9_next_132 : decode cX9_next 132 = .ok (.dup, 1) := by decide +kernel
theorem dX9_next_133 : decode cX9_next 133 = .ok (.getfield 23, 3) := by decide +kernel
theorem dX9_next_136 : decode cX9_next 136 = .ok (.iconst 1, 1) := by decide +kernel
theorem dX9_next_137 : decode cX9_next 137 = .ok (.iadd, 1) := by decide +kernel
theorem dX9_next_138 : decode cX9_next 138 = .ok (.putfield 23, 3) := by decide +kernel
theorem dX9_next_141 : decode cX9_next 141 = .ok (.return_, 1) := by decide +kernel
theorem dX9_isLetter_0 : decode cX9_isLetter 0 = .ok (.iload_n 0, 1) := by decide +kernel
theorem dX9_isLetter_1 : decode cX9_isLetter 1 = .ok (.bipush 97, 2) := by decide +kernel
theorem dX9_isLetter_3 : decode cX9_isLetter 3 = .ok (.if_icmp .lt 13, 3) := by decide +kernel
theorem dX9_isLetter_6 : decode cX9_isLetter 6 = .ok (.iload_n 0, 1) := by decide +kernel
theorem dX9_isLetter_7 : decode cX9_isLetter 7 = .ok (.bipush 122, 2) := by decide +kernel
theorem dX9_isLetter_9 : decode cX9_isLetter 9 = .ok (.if_icmp .gt 7, 3) := by decide +kernel
theorem dX9_isLetter_12 : decode cX9_isLetter 12 = .ok (.iconst 1, 1) := by decide +kernel
theorem dX9_isLetter_13 : decode cX9_isLetter 13 = .ok (.goto 4, 3) := by decide +kernel
theorem dX9_isLetter_16 : decode cX9_isLetter 16 = .ok (.iconst 0, 1) := by decide +kernel
theorem dX9_isLetter_17 : decode cX9_isLetter 17 = .ok (.ireturn, 1) := by decide +kernel
theorem dX9_isDigit_0 : decode cX9_isDigit 0 = .ok (.iload_n 0, 1) := by decide +kernel
theorem dX9_isDigit_1 : decode cX9_isDigit 1 = .ok (.bipush 48, 2) := by decide +kernel
theorem dX9_isDigit_3 : decode cX9_isDigit 3 = .ok (.if_icmp .lt 13, 3) := by decide +kernel
theorem dX9_isDigit_6 : decode cX9_isDigit 6 = .ok (.iload_n 0, 1) := by decide +kernel
theorem dX9_isDigit_7 : decode cX9_isDigit 7 = .ok (.bipush 57, 2) := by decide +kernel
theorem dX9_isDigit_9 : decode cX9_isDigit 9 = .ok (.if_icmp .gt 7, 3) := by decide +kernel
theorem dX9_isDigit_12 : decode cX9_isDigit 12 = .ok (.iconst 1, 1) := by decide +kernel
theorem dX9_isDigit_13 : decode cX9_isDigit 13 = .ok (.goto 4, 3) := by decide +kernel
theorem dX9_isDigit_16 : decode cX9_isDigit 16 = .ok (.iconst 0, 1) := by decide +kernel
theorem dX9_isDigit_17 : decode cX9_isDigit 17 = .ok (.ireturn, 1) := by decide +kernel
theorem dX9_isSign_0 : decode cX9_isSign 0 = .ok (.iload_n 0, 1) := by decide +kernel
theorem dX9_isSign_1 : decode cX9_isSign 1 = .ok (.tableswitch 105 40 61 #[103, 103, 103, 103, 105, 103, 105, 105, 105, 105, 105, 105, 105, 105, 105, 105, 105, 105, 105, 103, 103, 103], 103) := by decide +kernel
theorem dX9_isSign_104 : decode cX9_isSign 104 = .ok (.iconst 1, 1) := by decide +kernel
theorem dX9_isSign_105 : decode cX9_isSign 105 = .ok (.ireturn, 1) := by decide +kernel
theorem dX9_isSign_106 : decode cX9_isSign 106 = .ok (.iconst 0, 1) := by decide +kernel
theorem dX9_isSign_107 : decode cX9_isSign 107 = .ok (.ireturn, 1) := by decide +kernel
theorem dX9_nextNumber_0 : decode cX9_nextNumber 0 = .ok (.aload_n 0, 1) := by decide +kernel
theorem dX9_nextNumber_1 : decode cX9_nextNumber 1 = .ok (.iconst 0, 1) := by decide +kernel
theorem dX9_nextNumber_2 : decode cX9_nextNumber 2 = .ok (.putfield 32, 3) := by decide +kernel
theorem dX9_nextNumber_5 : decode cX9_nextNumber 5 = .ok (.aload_n 0, 1) := by decide +kernel
theorem dX9_nextNumber_6 : decode cX9_nextNumber 6 = .ok (.getfield 23, 3) := by decide +kernel
theorem dX9_nextNumber_9 : decode cX9_nextNumber 9 = .ok (.aload_n 0, 1) := by decide +kernel
theorem dX9_nextNumber_10 : decode cX9_nextNumber 10 = .ok (.getfield 15, 3) := by decide +kernel
theorem dX9_nextNumber_13 : decode cX9_nextNumber 13 = .ok (.if_icmp .ge 53, 3) := by decide +kernel
theorem dX9_nextNumber_16 : decode cX9_nextNumber 16 = .ok (.aload_n 0, 1) := by decide +kernel
theorem dX9_nextNumber_17 : decode cX9_nextNumber 17 = .ok (.aload_n 0, 1) := by decide +kernel
theorem dX9_nextNumber_18 : decode cX9_nextNumber 18 = .ok (.getfield 23, 3) := by decide +kernel
theorem dX9_nextNumber_21 : decode cX9_nextNumber 21 = .ok (.invokevirtual 96, 3) := by decide +kernel
theorem dX9_nextNumber_24 : decode cX9_nextNumber 24 = .ok (.invokestatic 106, 3) := by decide +kernel
theorem dX9_nextNumber_27 : decode cX9_nextNumber 27 = .ok (.ifCond .eq 39, 3) := by decide +kernel
theorem dX9_nextNumber_30 : decode cX9_nextNumber 30 = .ok (.aload_n 0, 1) := by decide +kernel
theorem dX9_nextNumber_31 : decode cX9_nextNumber 31 = .ok (.aload_n 0, 1) := by decide +kernel
theorem dX9_nextNumber_32 : decode cX9_nextNumber 32 = .ok (.getfield 32, 3) := by decide +kernel
theorem dX9_nextNumber_35 : decode cX9_nextNumber 35 = .ok (.bipush 10, 2) := by decide +kernel
theorem dX9_nextNumber_37 : decode cX9_nextNumber 37 = .ok (.imul, 1) := by decide +kernel
theorem dX9_nextNumber_38 : decode cX9_nextNumber 38 = .ok (.aload_n 0, 1) := by decide +kernel
theorem dX9_nextNumber_39 : decode cX9_nextNumber 39 = .ok (.aload_n 0, 1) := by decide +kernel
theorem dX9_nextNumber_40 : decode cX9_nextNumber 40 = .ok (.getfield 23, 3) := by decide +kernel
theorem dX9_nextNumber_43 : decode cX9_nextNumber 43 = .ok (.invokevirtual 96, 3) := by decide +kernel
theorem dX9_nextNumber_46 : decode cX9_nextNumber 46 = .ok (.iadd, 1) := by decide +kernel
theorem dX9_nextNumber_47 : decode cX9_nextNumber 47 = .ok (.bipush 48, 2) := by decide +kernel
theorem dX9_nextNumber_49 : decode cX9_nextNumber 49 = .ok (.isub, 1) := by decide +kernel
theorem dX9_nextNumber_50 : decode cX9_nextNumber 50 = .ok (.putfield 32, 3) := by decide +kernel
theorem dX9_nextNumber_53 : decode cX9_nextNumber 53 = .ok (.aload_n 0, 1) := by decide +kernel
theorem dX9_nextNumber_54 : decode cX9_nextNumber 54 = .ok (.dup, 1) := by decide +kernel
theorem dX9_nextNumber_55 : decode cX9_nextNumber 55 = .ok (.getfield 23, 3) := by decide +kernel
theorem dX9_nextNumber_58 : decode cX9_nextNumber 58 = .ok (.iconst 1, 1) := by decide +kernel
theorem dX9_nextNumber_59 : decode cX9_nextNumber 59 = .ok (.iadd, 1) := by decide +kernel
theorem dX9_nextNumber_60 : decode cX9_nextNumber 60 = .ok (.putfield 23, 3) := by decide +kernel
theorem dX9_nextNumber_63 : decode cX9_nextNumber 63 = .ok (.goto (-58), 3) := by decide +kernel
theorem dX9_nextNumber_66 : decode cX9_nextNumber 66 = .ok (.aload_n 0, 1) := by decide +kernel
theorem dX9_nextNumber_67 : decode cX9_nextNumber 67 = .ok (.aload_n 0, 1) := by decide +kernel
theorem dX9_nextNumber_68 : decode cX9_nextNumber 68 = .ok (.getfield 23, 3) := by decide +kernel
theorem dX9_nextNumber_71 : decode cX9_nextNumber 71 = .ok (.aload_n 0, 1) := by decide +kernel
theorem dX9_nextNumber_72 : decode cX9_nextNumber 72 = .ok (.getfield 26, 3) := by decide +kernel
theorem dX9_nextNumber_75 : decode cX9_nextNumber 75 = .ok (.isub, 1) := by decide +kernel
theorem dX9_nextNumber_76 : decode cX9_nextNumber 76 = .ok (.iconst 4, 1) := by decide +kernel
theorem dX9_nextNumber_77 : decode cX9_nextNumber 77 = .ok (.if_icmp .le 8, 3) := by decide +kernel
theorem dX9_nextNumber_80 : decode cX9_nextNumber 80 = .ok (.bipush 9, 2) := by decide +kernel
theorem dX9_nextNumber_82 : decode cX9_nextNumber 82 = .ok (.goto 4, 3) := by decide +kernel
theorem dX9_nextNumber_85 : decode cX9_nextNumber 85 = .ok (.iconst 1, 1) := by decide +kernel
theorem dX9_nextNumber_86 : decode cX9_nextNumber 86 = .ok (.putfield 29, 3) := by decide +kernel
theorem dX9_nextNumber_89 : decode cX9_nextNumber 89 = .ok (.return_, 1) := by decide +kernel
theorem dX9_nextWord_0 : decode cX9_nextWord 0 = .ok (.aload_n 0, 1) := by decide +kernel
theorem dX9_nextWord_1 : decode cX9_nextWord 1 = .ok (.getfield 23, 3) := by decide +kernel
theorem dX9_nextWord_4 : decode cX9_nextWord 4 = .ok (.aload_n 0, 1) := by decide +kernel
theorem dX9_nextWord_5 : decode cX9_nextWord 5 = .ok (.getfield 15, 3) := by decide +kernel
theorem dX9_nextWord_8 : decode cX9_nextWord 8 = .ok (.if_icmp .ge 30, 3) := by decide +kernel
theorem dX9_nextWord_11 : decode cX9_nextWord 11 = .ok (.aload_n 0, 1) := by decide +kernel
theorem dX9_nextWord_12 : decode cX9_nextWord 12 = .ok (.aload_n 0, 1) := by decide +kernel
theorem dX9_nextWord_13 : decode cX9_nextWord 13 = .ok (.getfield 23, 3) := by decide +kernel
theorem dX9_nextWord_16 : decode cX9_nextWord 16 = .ok (.invokevirtual 96, 3) := by decide +kernel
theorem dX9_nextWord_19 : decode cX9_nextWord 19 = .ok (.invokestatic 100, 3) := by decide +kernel
theorem dX9_nextWord_22 : decode cX9_nextWord 22 = .ok (.ifCond .eq 16, 3) := by decide +kernel
theorem dX9_nextWord_25 : decode cX9_nextWord 25 = .ok (.aload_n 0, 1) := by decide +kernel
theorem dX9_nextWord_26 : decode cX9_nextWord 26 = .ok (.dup, 1) := by decide +kernel
theorem dX9_nextWord_27 : decode cX9_nextWord 27 = .ok (.getfield 23, 3) := by decide +kernel
theorem dX9_nextWord_30 : decode cX9_nextWord 30 = .ok (.iconst 1, 1) := by decide +kernel
theorem dX9_nextWord_31 : decode cX9_nextWord 31 = .ok (.iadd, 1) := by decide +kernel
theorem dX9_nextWord_32 : decode cX9_nextWord 32 = .ok (.putfield 23, 3) := by decide +kernel
theorem dX9_nextWord_35 : decode cX9_nextWord 35 = .ok (.goto (-35), 3) := by decide +kernel
theorem dX9_nextWord_38 : decode cX9_nextWord 38 = .ok (.aload_n 0, 1) := by decide +kernel
theorem dX9_nextWord_39 : decode cX9_nextWord 39 = .ok (.aload_n 0, 1) := by decide +kernel
theorem dX9_nextWord_40 : decode cX9_nextWord 40 = .ok (.invokevirtual 115, 3) := by decide +kernel
theorem dX9_nextWord_43 : decode cX9_nextWord 43 = .ok (.putfield 32, 3) := by decide +kernel
theorem dX9_nextWord_46 : decode cX9_nextWord 46 = .ok (.aload_n 0, 1) := by decide +kernel
theorem dX9_nextWord_47 : decode cX9_nextWord 47 = .ok (.aload_n 0, 1) := by decide +kernel
theorem dX9_nextWord_48 : decode cX9_nextWord 48 = .ok (.getfield 32, 3) := by decide +kernel
theorem dX9_nextWord_51 : decode cX9_nextWord 51 = .ok (.ifCond .eq 7, 3) := by decide +kernel
theorem dX9_nextWord_54 : decode cX9_nextWord 54 = .ok (.iconst 2, 1) := by decide +kernel
theorem dX9_nextWord_55 : decode cX9_nextWord 55 = .ok (.goto 7, 3) := by decide +kernel
theorem dX9_nextWord_58 : decode cX9_nextWord 58 = .ok (.aload_n 0, 1) := by decide +kernel
theorem dX9_nextWord_59 : decode cX9_nextWord 59 = .ok (.invokevirtual 118, 3) := by decide +kernel
theorem dX9_nextWord_62 : decode cX9_nextWord 62 = .ok (.putfield 29, 3) := by decide +kernel
theorem dX9_nextWord_65 : decode cX9_nextWord 65 = .ok (.return_, 1) := by decide +kernel
theorem dX9_nameOfWord_0 : decode cX9_nameOfWord 0 = .ok (.aload_n 0, 1) := by decide +kernel
theorem dX9_nameOfWord_1 : decode cX9_nameOfWord 1 = .ok (.ldc 121, 2) := by decide +kernel
theorem dX9_nameOfWord_3 : decode cX9_nameOfWord 3 = .ok (.invokevirtual 123, 3) := by decide +kernel
theorem dX9_nameOfWord_6 : decode cX9_nameOfWord 6 = .ok (.ifCond .eq 5, 3) := by decide +kernel
theorem dX9_nameOfWord_9 : decode cX9_nameOfWord 9 = .ok (.iconst (-1), 1) := by decide +kernel
theorem dX9_nameOfWord_10 : decode cX9_nameOfWord 10 = .ok (.ireturn, 1) := by decide +kernel
theorem dX9_nameOfWord_11 : decode cX9_nameOfWord 11 = .ok (.aload_n 0, 1) := by decide +kernel
theorem dX9_nameOfWord_12 : decode cX9_nameOfWord 12 = .ok (.ldc 127, 2) := by decide +kernel
theorem dX9_nameOfWord_14 : decode cX9_nameOfWord 14 = .ok (.invokevirtual 123, 3) := by decide +kernel
theorem dX9_nameOfWord_17 : decode cX9_nameOfWord 17 = .ok (.ifCond .eq 6, 3) := by decide +kernel
theorem dX9_nameOfWord_20 : decode cX9_nameOfWord 20 = .ok (.bipush (-2), 2) := by decide +kernel
theorem dX9_nameOfWord_22 : decode cX9_nameOfWord 22 = .ok (.ireturn, 1) := by decide +kernel
theorem dX9_nameOfWord_23 : decode cX9_nameOfWord 23 = .ok (.aload_n 0, 1) := by decide +kernel
theorem dX9_nameOfWord_24 : decode cX9_nameOfWord 24 = .ok (.ldc 129, 2) := by decide +kernel
theorem dX9_nameOfWord_26 : decode cX9_nameOfWord 26 = .ok (.invokevirtual 123, 3) := by decide +kernel
theorem dX9_nameOfWord_29 : decode cX9_nameOfWord 29 = .ok (.ifCond .eq 6, 3) := by decide +kernel
theorem dX9_nameOfWord_32 : decode cX9_nameOfWord 32 = .ok (.bipush (-3), 2) := by decide +kernel
theorem dX9_nameOfWord_34 : decode cX9_nameOfWord 34 = .ok (.ireturn, 1) := by decide +kernel
theorem dX9_nameOfWord_35 : decode cX9_nameOfWord 35 = .ok (.aload_n 0, 1) := by decide +kernel
theorem dX9_nameOfWord_36 : decode cX9_nameOfWord 36 = .ok (.ldc 131, 2) := by decide +kernel
theorem dX9_nameOfWord_38 : decode cX9_nameOfWord 38 = .ok (.invokevirtual 123, 3) := by decide +kernel
theorem dX9_nameOfWord_41 : decode cX9_nameOfWord 41 = .ok (.ifCond .eq 6, 3) := by decide +kernel
theorem dX9_nameOfWord_44 : decode cX9_nameOfWord 44 = .ok (.bipush (-4), 2) := by decide +kernel
theorem dX9_nameOfWord_46 : decode cX9_nameOfWord 46 = .ok (.ireturn, 1) := by decide +kernel
theorem dX9_nameOfWord_47 : decode cX9_nameOfWord 47 = .ok (.aload_n 0, 1) := by decide +kernel
theorem dX9_nameOfWord_48 : decode cX9_nameOfWord 48 = .ok (.ldc 133, 2) := by decide +kernel
theorem dX9_nameOfWord_50 : decode cX9_nameOfWord 50 = .ok (.invokevirtual 123, 3) := by decide +kernel
theorem dX9_nameOfWord_53 : decode cX9_nameOfWord 53 = .ok (.ifCond .eq 6, 3) := by decide +kernel
theorem dX9_nameOfWord_56 : decode cX9_nameOfWord 56 = .ok (.bipush (-5), 2) := by decide +kernel
theorem dX9_nameOfWord_58 : decode cX9_nameOfWord 58 = .ok (.ireturn, 1) := by decide +kernel
theorem dX9_nameOfWord_59 : decode cX9_nameOfWord 59 = .ok (.aload_n 0, 1) := by decide +kernel
theorem dX9_nameOfWord_60 : decode cX9_nameOfWord 60 = .ok (.ldc 135, 2) := by decide +kernel
theorem dX9_nameOfWord_62 : decode cX9_nameOfWord 62 = .ok (.invokevirtual 123, 3) := by decide +kernel
theorem dX9_nameOfWord_65 : decode cX9_nameOfWord 65 = .ok (.ifCond .eq 8, 3) := by decide +kernel
theorem dX9_nameOfWord_68 : decode cX9_nameOfWord 68 = .ok (.bipush (-6), 2) := by decide +kernel
theorem dX9_nameOfWord_70 : decode cX9_nameOfWord 70 = .ok (.goto 4, 3) := by decide +kernel
theorem dX9_nameOfWord_73 : decode cX9_nameOfWord 73 = .ok (.iconst 0, 1) := by decide +kernel
theorem dX9_nameOfWord_74 : decode cX9_nameOfWord 74 = .ok (.ireturn, 1) := by decide +kernel
theorem dX9_keyOfWord_0 : decode cX9_keyOfWord 0 = .ok (.aload_n 0, 1) := by decide +kernel
theorem dX9_keyOfWord_1 : decode cX9_keyOfWord 1 = .ok (.ldc 137, 2) := by decide +kernel
theorem dX9_keyOfWord_3 : decode cX9_keyOfWord 3 = .ok (.invokevirtual 123, 3) := by decide +kernel
theorem dX9_keyOfWord_6 : decode cX9_keyOfWord 6 = .ok (.ifCond .eq 5, 3) := by decide +kernel
theorem dX9_keyOfWord_9 : decode cX9_keyOfWord 9 = .ok (.iconst 3, 1) := by decide +kernel
theorem dX9_keyOfWord_10 : decode cX9_keyOfWord 10 = .ok (.ireturn, 1) := by decide +kernel
theorem dX9_keyOfWord_11 : decode cX9_keyOfWord 11 = .ok (.aload_n 0, 1) := by decide +kernel
theorem dX9_keyOfWord_12 : decode cX9_keyOfWord 12 = .ok (.ldc 139, 2) := by decide +kernel
theorem dX9_keyOfWord_14 : decode cX9_keyOfWord 14 = .ok (.invokevirtual 123, 3) := by decide +kernel
theorem dX9_keyOfWord_17 : decode cX9_keyOfWord 17 = .ok (.ifCond .eq 5, 3) := by decide +kernel
theorem dX9_keyOfWord_20 : decode cX9_keyOfWord 20 = .ok (.iconst 4, 1) := by decide +kernel
theorem dX9_keyOfWord_21 : decode cX9_keyOfWord 21 = .ok (.ireturn, 1) := by decide +kernel
theorem dX9_keyOfWord_22 : decode cX9_keyOfWord 22 = .ok (.aload_n 0, 1) := by decide +kernel
theorem dX9_keyOfWord_23 : decode cX9_keyOfWord 23 = .ok (.ldc 141, 2) := by decide +kernel
theorem dX9_keyOfWord_25 : decode cX9_keyOfWord 25 = .ok (.invokevirtual 123, 3) := by decide +kernel
theorem dX9_keyOfWord_28 : decode cX9_keyOfWord 28 = .ok (.ifCond .eq 5, 3) := by decide +kernel
theorem dX9_keyOfWord_31 : decode cX9_keyOfWord 31 = .ok (.iconst 5, 1) := by decide +kernel
theorem dX9_keyOfWord_32 : decode cX9_keyOfWord 32 = .ok (.ireturn, 1) := by decide +kernel
theorem dX9_keyOfWord_33 : decode cX9_keyOfWord 33 = .ok (.aload_n 0, 1) := by decide +kernel
theorem dX9_keyOfWord_34 : decode cX9_keyOfWord 34 = .ok (.ldc 143, 2) := by decide +kernel
theorem dX9_keyOfWord_36 : decode cX9_keyOfWord 36 = .ok (.invokevirtual 123, 3) := by decide +kernel
theorem dX9_keyOfWord_39 : decode cX9_keyOfWord 39 = .ok (.ifCond .eq 6, 3) := by decide +kernel
theorem dX9_keyOfWord_42 : decode cX9_keyOfWord 42 = .ok (.bipush 6, 2) := by decide +kernel
theorem dX9_keyOfWord_44 : decode cX9_keyOfWord 44 = .ok (.ireturn, 1) := by decide +kernel
theorem dX9_keyOfWord_45 : decode cX9_keyOfWord 45 = .ok (.aload_n 0, 1) := by decide +kernel
theorem dX9_keyOfWord_46 : decode cX9_keyOfWord 46 = .ok (.ldc 145, 2) := by decide +kernel
theorem dX9_keyOfWord_48 : decode cX9_keyOfWord 48 = .ok (.invokevirtual 123, 3) := by decide +kernel
theorem dX9_keyOfWord_51 : decode cX9_keyOfWord 51 = .ok (.ifCond .eq 6, 3) := by decide +kernel
theorem dX9_keyOfWord_54 : decode cX9_keyOfWord 54 = .ok (.bipush 7, 2) := by decide +kernel
theorem dX9_keyOfWord_56 : decode cX9_keyOfWord 56 = .ok (.ireturn, 1) := by decide +kernel
theorem dX9_keyOfWord_57 : decode cX9_keyOfWord 57 = .ok (.aload_n 0, 1) := by decide +kernel
theorem dX9_keyOfWord_58 : decode cX9_keyOfWord 58 = .ok (.ldc 147, 2) := by decide +kernel
theorem dX9_keyOfWord_60 : decode cX9_keyOfWord 60 = .ok (.invokevirtual 123, 3) := by decide +kernel
theorem dX9_keyOfWord_63 : decode cX9_keyOfWord 63 = .ok (.ifCond .eq 8, 3) := by decide +kernel
theorem dX9_keyOfWord_66 : decode cX9_keyOfWord 66 = .ok (.bipush 8, 2) := by decide +kernel
theorem dX9_keyOfWord_68 : decode cX9_keyOfWord 68 = .ok (.goto 5, 3) := by decide +kernel
theorem dX9_keyOfWord_71 : decode cX9_keyOfWord 71 = .ok (.bipush 9, 2) := by decide +kernel
theorem dX9_keyOfWord_73 : decode cX9_keyOfWord 73 = .ok (.ireturn, 1) := by decide +kernel
theorem dX9_isWord_0 : decode cX9_isWord 0 = .ok (.aload_n 1, 1) := by decide +kernel
theorem dX9_isWord_1 : decode cX9_isWord 1 = .ok (.invokevirtual 38, 3) := by decide +kernel
theorem dX9_isWord_4 : decode cX9_isWord 4 = .ok (.aload_n 0, 1) := by decide +kernel
theorem dX9_isWord_5 : decode cX9_isWord 5 = .ok (.getfield 23, 3) := by decide +kernel
theorem dX9_isWord_8 : decode cX9_isWord 8 = .ok (.aload_n 0, 1) := by decide +kernel
theorem dX9_isWord_9 : decode cX9_isWord 9 = .ok (.getfield 26, 3) := by decide +kernel
theorem dX9_isWord_12 : decode cX9_isWord 12 = .ok (.isub, 1) := by decide +kernel
theorem dX9_isWord_13 : decode cX9_isWord 13 = .ok (.if_icmp .eq 5, 3) := by decide +kernel
theorem dX9_isWord_16 : decode cX9_isWord 16 = .ok (.iconst 0, 1) := by decide +kernel
theorem dX9_isWord_17 : decode cX9_isWord 17 = .ok (.ireturn, 1) := by decide +kernel
theorem dX9_isWord_18 : decode cX9_isWord 18 = .ok (.iconst 0, 1) := by decide +kernel
theorem dX9_isWord_19 : decode cX9_isWord 19 = .ok (.istore_n 2, 1) := by decide +kernel
theorem dX9_isWord_20 : decode cX9_isWord 20 = .ok (.iload_n 2, 1) := by decide +kernel
theorem dX9_isWord_21 : decode cX9_isWord 21 = .ok (.aload_n 1, 1) := by decide +kernel
theorem dX9_isWord_22 : decode cX9_isWord 22 = .ok (.invokevirtual 38, 3) := by decide +kernel
theorem dX9_isWord_25 : decode cX9_isWord 25 = .ok (.if_icmp .ge 45, 3) := by decide +kernel
theorem dX9_isWord_28 : decode cX9_isWord 28 = .ok (.aload_n 0, 1) := by decide +kernel
theorem dX9_isWord_29 : decode cX9_isWord 29 = .ok (.getfield 26, 3) := by decide +kernel
theorem dX9_isWord_32 : decode cX9_isWord 32 = .ok (.iload_n 2, 1) := by decide +kernel
theorem dX9_isWord_33 : decode cX9_isWord 33 = .ok (.iadd, 1) := by decide +kernel
theorem dX9_isWord_34 : decode cX9_isWord 34 = .ok (.istore_n 3, 1) := by decide +kernel
theorem dX9_isWord_35 : decode cX9_isWord 35 = .ok (.iload_n 3, 1) := by decide +kernel
theorem dX9_isWord_36 : decode cX9_isWord 36 = .ok (.ifCond .lt 26, 3) := by decide +kernel
theorem dX9_isWord_39 : decode cX9_isWord 39 = .ok (.iload_n 3, 1) := by decide +kernel
theorem dX9_isWord_40 : decode cX9_isWord 40 = .ok (.aload_n 0, 1) := by decide +kernel
theorem dX9_isWord_41 : decode cX9_isWord 41 = .ok (.getfield 9, 3) := by decide +kernel
theorem dX9_isWord_44 : decode cX9_isWord 44 = .ok (.arraylength, 1) := by decide +kernel
theorem dX9_isWord_45 : decode cX9_isWord 45 = .ok (.if_icmp .ge 17, 3) := by decide +kernel
theorem dX9_isWord_48 : decode cX9_isWord 48 = .ok (.aload_n 1, 1) := by decide +kernel
theorem dX9_isWord_49 : decode cX9_isWord 49 = .ok (.iload_n 2, 1) := by decide +kernel
theorem dX9_isWord_50 : decode cX9_isWord 50 = .ok (.invokevirtual 44, 3) := by decide +kernel
theorem dX9_isWord_53 : decode cX9_isWord 53 = .ok (.aload_n 0, 1) := by decide +kernel
theorem dX9_isWord_54 : decode cX9_isWord 54 = .ok (.getfield 9, 3) := by decide +kernel
theorem dX9_isWord_57 : decode cX9_isWord 57 = .ok (.iload_n 3, 1) := by decide +kernel
theorem dX9_isWord_58 : decode cX9_isWord 58 = .ok (.iaload, 1) := by decide +kernel
theorem dX9_isWord_59 : decode cX9_isWord 59 = .ok (.if_icmp .eq 5, 3) := by decide +kernel
theorem dX9_isWord_62 : decode cX9_isWord 62 = .ok (.iconst 0, 1) := by decide +kernel
theorem dX9_isWord_63 : decode cX9_isWord 63 = .ok (.ireturn, 1) := by decide +kernel
theorem dX9_isWord_64 : decode cX9_isWord 64 = .ok (.iinc 2 1, 3) := by decide +kernel
theorem dX9_isWord_67 : decode cX9_isWord 67 = .ok (.goto (-47), 3) := by decide +kernel
theorem dX9_isWord_70 : decode cX9_isWord 70 = .ok (.iconst 1, 1) := by decide +kernel
theorem dX9_isWord_71 : decode cX9_isWord 71 = .ok (.ireturn, 1) := by decide +kernel
theorem dX10_init_0 : decode cX10_init 0 = .ok (.aload_n 0, 1) := by decide +kernel
theorem dX10_init_1 : decode cX10_init 1 = .ok (.invokespecial 3, 3) := by decide +kernel
theorem dX10_init_4 : decode cX10_init 4 = .ok (.aload_n 0, 1) := by decide +kernel
theorem dX10_init_5 : decode cX10_init 5 = .ok (.sipush 160, 3) := by decide +kernel
theorem dX10_init_8 : decode cX10_init 8 = .ok (.newarray .int, 2) := by decide +kernel
theorem dX10_init_10 : decode cX10_init 10 = .ok (.putfield 9, 3) := by decide +kernel
theorem dX10_init_13 : decode cX10_init 13 = .ok (.aload_n 0, 1) := by decide +kernel
theorem dX10_init_14 : decode cX10_init 14 = .ok (.sipush 160, 3) := by decide +kernel
theorem dX10_init_17 : decode cX10_init 17 = .ok (.newarray .int, 2) := by decide +kernel
theorem dX10_init_19 : decode cX10_init 19 = .ok (.putfield 15, 3) := by decide +kernel
theorem dX10_init_22 : decode cX10_init 22 = .ok (.aload_n 0, 1) := by decide +kernel
theorem dX10_init_23 : decode cX10_init 23 = .ok (.bipush 6, 2) := by decide +kernel
theorem dX10_init_25 : decode cX10_init 25 = .ok (.newarray .int, 2) := by decide +kernel
theorem dX10_init_27 : decode cX10_init 27 = .ok (.putfield 18, 3) := by decide +kernel
theorem dX10_init_30 : decode cX10_init 30 = .ok (.aload_n 0, 1) := by decide +kernel
theorem dX10_init_31 : decode cX10_init 31 = .ok (.iconst 3, 1) := by decide +kernel
theorem dX10_init_32 : decode cX10_init 32 = .ok (.newarray .int, 2) := by decide +kernel
theorem dX10_init_34 : decode cX10_init 34 = .ok (.putfield 21, 3) := by decide +kernel
theorem dX10_init_37 : decode cX10_init 37 = .ok (.aload_n 0, 1) := by decide +kernel
theorem dX10_init_38 : decode cX10_init 38 = .ok (.iconst 0, 1) := by decide +kernel
theorem dX10_init_39 : decode cX10_init 39 = .ok (.putfield 24, 3) := by decide +kernel
theorem dX10_init_42 : decode cX10_init 42 = .ok (.aload_n 0, 1) := by decide +kernel
theorem dX10_init_43 : decode cX10_init 43 = .ok (.iload_n 1, 1) := by decide +kernel
theorem dX10_init_44 : decode cX10_init 44 = .ok (.putfield 28, 3) := by decide +kernel
theorem dX10_init_47 : decode cX10_init 47 = .ok (.return_, 1) := by decide +kernel
theorem dX10_clear_0 : decode cX10_clear 0 = .ok (.aload_n 0, 1) := by decide +kernel
theorem dX10_clear_1 : decode cX10_clear 1 = .ok (.iconst 0, 1) := by decide +kernel
theorem dX10_clear_2 : decode cX10_clear 2 = .ok (.putfield 24, 3) := by decide +kernel
theorem dX10_clear_5 : decode cX10_clear 5 = .ok (.return_, 1) := by decide +kernel
theorem dX10_add_0 : decode cX10_add 0 = .ok (.aload_n 0, 1) := by decide +kernel
theorem dX10_add_1 : decode cX10_add 1 = .ok (.getfield 24, 3) := by decide +kernel
theorem dX10_add_4 : decode cX10_add 4 = .ok (.aload_n 0, 1) := by decide +kernel
theorem dX10_add_5 : decode cX10_add 5 = .ok (.getfield 9, 3) := by decide +kernel
theorem dX10_add_8 : decode cX10_add 8 = .ok (.arraylength, 1) := by decide +kernel
theorem dX10_add_9 : decode cX10_add 9 = .ok (.if_icmp .ge 23, 3) := by decide +kernel
theorem dX10_add_12 : decode cX10_add 12 = .ok (.aload_n 0, 1) := by decide +kernel
theorem dX10_add_13 : decode cX10_add 13 = .ok (.getfield 9, 3) := by decide +kernel
theorem dX10_add_16 : decode cX10_add 16 = .ok (.aload_n 0, 1) := by decide +kernel
theorem dX10_add_17 : decode cX10_add 17 = .ok (.getfield 24, 3) := by decide +kernel
theorem dX10_add_20 : decode cX10_add 20 = .ok (.iload_n 1, 1) := by decide +kernel
theorem dX10_add_21 : decode cX10_add 21 = .ok (.iastore, 1) := by decide +kernel
theorem dX10_add_22 : decode cX10_add 22 = .ok (.aload_n 0, 1) := by decide +kernel
theorem dX10_add_23 : decode cX10_add 23 = .ok (.dup, 1) := by decide +kernel
theorem dX10_add_24 : decode cX10_add 24 = .ok (.getfield 24, 3) := by decide +kernel
theorem dX10_add_27 : decode cX10_add 27 = .ok (.iconst 1, 1) := by decide +kernel
theorem dX10_add_28 : decode cX10_add 28 = .ok (.iadd, 1) := by decide +kernel
theorem dX10_add_29 : decode cX10_add 29 = .ok (.putfield 24, 3) := by decide +kernel
theorem dX10_add_32 : decode cX10_add 32 = .ok (.return_, 1) := by decide +kernel
theorem dX10_endPart_0 : decode cX10_endPart 0 = .ok (.iload_n 1, 1) := by decide +kernel
theorem dX10_endPart_1 : decode cX10_endPart 1 = .ok (.ifCond .lt 22, 3) := by decide +kernel
theorem dX10_endPart_4 : decode cX10_endPart 4 = .ok (.iload_n 1, 1) := by decide +kernel
theorem dX10_endPart_5 : decode cX10_endPart 5 = .ok (.aload_n 0, 1) := by decide +kernel
theorem dX10_endPart_6 : decode cX10_endPart 6 = .ok (.getfield 21, 3) := by decide +kernel
theorem dX10_endPart_9 : decode cX10_endPart 9 = .ok (.arraylength, 1) := by decide +kernel
theorem dX10_endPart_10 : decode cX10_endPart 10 = .ok (.if_icmp .ge 13, 3) := by decide +kernel
theorem dX10_endPart_13 : decode cX10_endPart 13 = .ok (.aload_n 0, 1) := by decide +kernel
theorem dX10_endPart_14 : decode cX10_endPart 14 = .ok (.getfield 21, 3) := by decide +kernel
theorem dX10_endPart_17 : decode cX10_endPart 17 = .ok (.iload_n 1, 1) := by decide +kernel
theorem dX10_endPart_18 : decode cX10_endPart 18 = .ok (.aload_n 0, 1) := by decide +kernel
theorem dX10_endPart_19 : decode cX10_endPart 19 = .ok (.getfield 24, 3) := by decide +kernel
theorem dX10_endPart_22 : decode cX10_endPart 22 = .ok (.iastore, 1) := by decide +kernel
theorem dX10_endPart_23 : decode cX10_endPart 23 = .ok (.return_, 1) := by decide +kernel
theorem dX10_reckon_0 : decode cX10_reckon 0 = .ok (.iload_n 1, 1) := by decide +kernel
theorem dX10_reckon_1 : decode cX10_reckon 1 = .ok (.ifCond .lt 12, 3) := by decide +kernel
theorem dX10_reckon_4 : decode cX10_reckon 4 = .ok (.iload_n 1, 1) := by decide +kernel
theorem dX10_reckon_5 : decode cX10_reckon 5 = .ok (.aload_n 0, 1) := by decide +kernel
theorem dX10_reckon_6 : decode cX10_reckon 6 = .ok (.getfield 21, 3) := by decide +kernel
theorem dX10_reckon_9 : decode cX10_reckon 9 = .ok (.arraylength, 1) := by decide +kernel
theorem dX10_reckon_10 : decode cX10_reckon 10 = .ok (.if_icmp .lt 5, 3) := by decide +kernel
theorem dX10_reckon_13 : decode cX10_reckon 13 = .ok (.iconst 0, 1) := by decide +kernel
theorem dX10_reckon_14 : decode cX10_reckon 14 = .ok (.ireturn, 1) := by decide +kernel
theorem dX10_reckon_15 : decode cX10_reckon 15 = .ok (.aload_n 0, 1) := by decide +kernel
theorem dX10_reckon_16 : decode cX10_reckon 16 = .ok (.getfield 18, 3) := by decide +kernel
theorem dX10_reckon_19 : decode cX10_reckon 19 = .ok (.iconst 0, 1) := by decide +kernel
theorem dX10_reckon_20 : decode cX10_reckon 20 = .ok (.iload 4, 2) := by decide +kernel
theorem dX10_reckon_22 : decode cX10_reckon 22 = .ok (.iastore, 1) := by decide +kernel
theorem dX10_reckon_23 : decode cX10_reckon 23 = .ok (.aload_n 0, 1) := by decide +kernel
theorem dX10_reckon_24 : decode cX10_reckon 24 = .ok (.getfield 18, 3) := by decide +kernel
theorem dX10_reckon_27 : decode cX10_reckon 27 = .ok (.iconst 1, 1) := by decide +kernel
theorem dX10_reckon_28 : decode cX10_reckon 28 = .ok (.iload_n 3, 1) := by decide +kernel
theorem dX10_reckon_29 : decode cX10_reckon 29 = .ok (.iastore, 1) := by decide +kernel
theorem dX10_reckon_30 : decode cX10_reckon 30 = .ok (.aload_n 0, 1) := by decide +kernel
theorem dX10_reckon_31 : decode cX10_reckon 31 = .ok (.getfield 18, 3) := by decide +kernel
theorem dX10_reckon_34 : decode cX10_reckon 34 = .ok (.iconst 2, 1) := by decide +kernel
theorem dX10_reckon_35 : decode cX10_reckon 35 = .ok (.aload_n 2, 1) := by decide +kernel
theorem dX10_reckon_36 : decode cX10_reckon 36 = .ok (.getfield 31, 3) := by decide +kernel
theorem dX10_reckon_39 : decode cX10_reckon 39 = .ok (.iastore, 1) := by decide +kernel
theorem dX10_reckon_40 : decode cX10_reckon 40 = .ok (.aload_n 0, 1) := by decide +kernel
theorem dX10_reckon_41 : decode cX10_reckon 41 = .ok (.getfield 18, 3) := by decide +kernel
theorem dX10_reckon_44 : decode cX10_reckon 44 = .ok (.iconst 3, 1) := by decide +kernel
theorem dX10_reckon_45 : decode cX10_reckon 45 = .ok (.aload_n 2, 1) := by decide +kernel
theorem dX10_reckon_46 : decode cX10_reckon 46 = .ok (.getfield 36, 3) := by decide +kernel
theorem dX10_reckon_49 : decode cX10_reckon 49 = .ok (.iastore, 1) := by decide +kernel
theorem dX10_reckon_50 : decode cX10_reckon 50 = .ok (.aload_n 0, 1) := by decide +kernel
theorem dX10_reckon_51 : decode cX10_reckon 51 = .ok (.getfield 18, 3) := by decide +kernel
theorem dX10_reckon_54 : decode cX10_reckon 54 = .ok (.iconst 4, 1) := by decide +kernel
theorem dX10_reckon_55 : decode cX10_reckon 55 = .ok (.iload 5, 2) := by decide +kernel
theorem dX10_reckon_57 : decode cX10_reckon 57 = .ok (.iastore, 1) := by decide +kernel
theorem dX10_reckon_58 : decode cX10_reckon 58 = .ok (.aload_n 0, 1) := by decide +kernel
theorem dX10_reckon_59 : decode cX10_reckon 59 = .ok (.getfield 18, 3) := by decide +kernel
theorem dX10_reckon_62 : decode cX10_reckon 62 = .ok (.iconst 5, 1) := by decide +kernel
theorem dX10_reckon_63 : decode cX10_reckon 63 = .ok (.iload 6, 2) := by decide +kernel
theorem dX10_reckon_65 : decode cX10_reckon 65 = .ok (.iastore, 1) := by decide +kernel
theorem dX10_reckon_66 : decode cX10_reckon 66 = .ok (.iconst 0, 1) := by decide +kernel
theorem dX10_reckon_67 : decode cX10_reckon 67 = .ok (.istore 7, 2) := by decide +kernel
theorem dX10_reckon_69 : decode cX10_reckon 69 = .ok (.iload_n 1, 1) := by decide +kernel
theorem dX10_reckon_70 : decode cX10_reckon 70 = .ok (.ifCond .ne 7, 3) := by decide +kernel
theorem dX10_reckon_73 : decode cX10_reckon 73 = .ok (.iconst 0, 1) := by decide +kernel
theorem dX10_reckon_74 : decode cX10_reckon 74 = .ok (.goto 11, 3) := by decide +kernel
theorem dX10_reckon_77 : decode cX10_reckon 77 = .ok (.aload_n 0, 1) := by decide +kernel
theorem dX10_reckon_78 : decode cX10_reckon 78 = .ok (.getfield 21, 3) := by decide +kernel
theorem dX10_reckon_81 : decode cX10_reckon 81 = .ok (.iload_n 1, 1) := by decide +kernel
theorem dX10_reckon_82 : decode cX10_reckon 82 = .ok (.iconst 1, 1) := by decide +kernel
theorem dX10_reckon_83 : decode cX10_reckon 83 = .ok (.isub, 1) := by decide +kernel
theorem dX10_reckon_84 : decode cX10_reckon 84 = .ok (.iaload, 1) := by decide +kernel
theorem dX10_reckon_85 : decode cX10_reckon 85 = .ok (.istore 8, 2) := by decide +kernel
theorem dX10_reckon_87 : decode cX10_reckon 87 = .ok (.iload 8, 2) := by decide +kernel
theorem dX10_reckon_89 : decode cX10_reckon 89 = .ok (.aload_n 0, 1) := by decide +kernel
theorem dX10_reckon_90 : decode cX10_reckon 90 = .ok (.getfield 21, 3) := by decide +kernel
theorem dX10_reckon_93 : decode cX10_reckon 93 = .ok (.iload_n 1, 1) := by decide +kernel
theorem dX10_reckon_94 : decode cX10_reckon 94 = .ok (.iaload, 1) := by decide +kernel
theorem dX10_reckon_95 : decode cX10_reckon 95 = .ok (.if_icmp .ge 34, 3) := by decide +kernel
theorem dX10_reckon_98 : decode cX10_reckon 98 = .ok (.iload 8, 2) := by decide +kernel
theorem dX10_reckon_100 : decode cX10_reckon 100 = .ok (.aload_n 0, 1) := by decide +kernel
theorem dX10_reckon_101 : decode cX10_reckon 101 = .ok (.getfield 9, 3) := by decide +kernel
theorem dX10_reckon_104 : decode cX10_reckon 104 = .ok (.arraylength, 1) := by decide +kernel
theorem dX10_reckon_105 : decode cX10_reckon 105 = .ok (.if_icmp .ge 24, 3) := by decide +kernel
theorem dX10_reckon_108 : decode cX10_reckon 108 = .ok (.aload_n 0, 1) := by decide +kernel
theorem dX10_reckon_109 : decode cX10_reckon 109 = .ok (.aload_n 0, 1) := by decide +kernel
theorem dX10_reckon_110 : decode cX10_reckon 110 = .ok (.getfield 9, 3) := by decide +kernel
theorem dX10_reckon_113 : decode cX10_reckon 113 = .ok (.iload 8, 2) := by decide +kernel
theorem dX10_reckon_115 : decode cX10_reckon 115 = .ok (.iaload, 1) := by decide +kernel
theorem dX10_reckon_116 : decode cX10_reckon 116 = .ok (.iload 7, 2) := by decide +kernel
theorem dX10_reckon_118 : decode cX10_reckon 118 = .ok (.invokevirtual 39, 3) := by decide +kernel
theorem dX10_reckon_121 : decode cX10_reckon 121 = .ok (.istore 7, 2) := by decide +kernel
theorem dX10_reckon_123 : decode cX10_reckon 123 = .ok (.iinc 8 1, 3) := by decide +kernel
theorem dX10_reckon_126 : decode cX10_reckon 126 = .ok (.goto (-39), 3) := by decide +kernel
theorem dX10_reckon_129 : decode cX10_reckon 129 = .ok (.iload 7, 2) := by decide +kernel
theorem dX10_reckon_131 : decode cX10_reckon 131 = .ok (.ifCond .le 15, 3) := by decide +kernel
theorem dX10_reckon_134 : decode cX10_reckon 134 = .ok (.aload_n 0, 1) := by decide +kernel
theorem dX10_reckon_135 : decode cX10_reckon 135 = .ok (.getfield 15, 3) := by decide +kernel
theorem dX10_reckon_138 : decode cX10_reckon 138 = .ok (.iload 7, 2) := by decide +kernel
theorem dX10_reckon_140 : decode cX10_reckon 140 = .ok (.iconst 1, 1) := by decide +kernel
theorem dX10_reckon_141 : decode cX10_reckon 141 = .ok (.isub, 1) := by decide +kernel
theorem dX10_reckon_142 : decode cX10_reckon 142 = .ok (.iaload, 1) := by decide +kernel
theorem dX10_reckon_143 : decode cX10_reckon 143 = .ok (.goto 4, 3) := by decide +kernel
theorem dX10_reckon_146 : decode cX10_reckon 146 = .ok (.iconst 0, 1) := by decide +kernel
theorem dX10_reckon_147 : decode cX10_reckon 147 = .ok (.ireturn, 1) := by decide +kernel
theorem dX10_work_0 : decode cX10_work 0 = .ok (.iload_n 1, 1) := by decide +kernel
theorem dX10_work_1 : decode cX10_work 1 = .ok (.bipush (-6), 2) := by decide +kernel
theorem dX10_work_3 : decode cX10_work 3 = .ok (.if_icmp .lt 44, 3) := by decide +kernel
theorem dX10_work_6 : decode cX10_work 6 = .ok (.iload_n 2, 1) := by decide +kernel
theorem dX10_work_7 : decode cX10_work 7 = .ok (.ifCond .lt 12, 3) := by decide +kernel
theorem dX10_work_10 : decode cX10_work 10 = .ok (.iload_n 2, 1) := by decide +kernel
theorem dX10_work_11 : decode cX10_work 11 = .ok (.aload_n 0, 1) := by decide +kernel
theorem dX10_work_12 : decode cX10_work 12 = .ok (.getfield 15, 3) := by decide +kernel
theorem dX10_work_15 : decode cX10_work 15 = .ok (.arraylength, 1) := by decide +kernel
theorem dX10_work_16 : decode cX10_work 16 = .ok (.if_icmp .lt 5, 3) := by decide +kernel
theorem dX10_work_19 : decode cX10_work 19 = .ok (.iload_n 2, 1) := by decide +kernel
theorem dX10_work_20 : decode cX10_work 20 = .ok (.ireturn, 1) := by decide +kernel
theorem dX10_work_21 : decode cX10_work 21 = .ok (.aload_n 0, 1) := by decide +kernel
theorem dX10_work_22 : decode cX10_work 22 = .ok (.getfield 15, 3) := by decide +kernel
theorem dX10_work_25 : decode cX10_work 25 = .ok (.iload_n 2, 1) := by decide +kernel
theorem dX10_work_26 : decode cX10_work 26 = .ok (.iload_n 1, 1) := by decide +kernel
theorem dX10_work_27 : decode cX10_work 27 = .ok (.ifCond .lt 7, 3) := by decide +kernel
theorem dX10_work_30 : decode cX10_work 30 = .ok (.iload_n 1, 1) := by decide +kernel
theorem dX10_work_31 : decode cX10_work 31 = .ok (.goto 11, 3) := by decide +kernel
theorem dX10_work_34 : decode cX10_work 34 = .ok (.aload_n 0, 1) := by decide +kernel
theorem dX10_work_35 : decode cX10_work 35 = .ok (.getfield 18, 3) := by decide +kernel
theorem dX10_work_38 : decode cX10_work 38 = .ok (.iconst (-1), 1) := by decide +kernel
theorem dX10_work_39 : decode cX10_work 39 = .ok (.iload_n 1, 1) := by decide +kernel
theorem dX10_work_40 : decode cX10_work 40 = .ok (.isub, 1) := by decide +kernel
theorem dX10_work_41 : decode cX10_work 41 = .ok (.iaload, 1) := by decide +kernel
theorem dX10_work_42 : decode cX10_work 42 = .ok (.iastore, 1) := by decide +kernel
theorem dX10_work_43 : decode cX10_work 43 = .ok (.iload_n 2, 1) := by decide +kernel
theorem dX10_work_44 : decode cX10_work 44 = .ok (.iconst 1, 1) := by decide +kernel
theorem dX10_work_45 : decode cX10_work 45 = .ok (.iadd, 1) := by decide +kernel
theorem dX10_work_46 : decode cX10_work 46 = .ok (.ireturn, 1) := by decide +kernel
theorem dX10_work_47 : decode cX10_work 47 = .ok (.iload_n 1, 1) := by decide +kernel
theorem dX10_work_48 : decode cX10_work 48 = .ok (.bipush (-8), 2) := by decide +kernel
theorem dX10_work_50 : decode cX10_work 50 = .ok (.if_icmp .lt 61, 3) := by decide +kernel
theorem dX10_work_53 : decode cX10_work 53 = .ok (.iload_n 2, 1) := by decide +kernel
theorem dX10_work_54 : decode cX10_work 54 = .ok (.iconst 1, 1) := by decide +kernel
theorem dX10_work_55 : decode cX10_work 55 = .ok (.if_icmp .lt 54, 3) := by decide +kernel
theorem dX10_work_58 : decode cX10_work 58 = .ok (.iload_n 2, 1) := by decide +kernel
theorem dX10_work_59 : decode cX10_work 59 = .ok (.aload_n 0, 1) := by decide +kernel
theorem dX10_work_60 : decode cX10_work 60 = .ok (.getfield 15, 3) := by decide +kernel
theorem dX10_work_63 : decode cX10_work 63 = .ok (.arraylength, 1) := by decide +kernel
theorem dX10_work_64 : decode cX10_work 64 = .ok (.if_icmp .gt 45, 3) := by decide +kernel
theorem dX10_work_67 : decode cX10_work 67 = .ok (.aload_n 0, 1) := by decide +kernel
theorem dX10_work_68 : decode cX10_work 68 = .ok (.getfield 15, 3) := by decide +kernel
theorem dX10_work_71 : decode cX10_work 71 = .ok (.iload_n 2, 1) := by decide +kernel
theorem dX10_work_72 : decode cX10_work 72 = .ok (.iconst 1, 1) := by decide +kernel
theorem dX10_work_73 : decode cX10_work 73 = .ok (.isub, 1) := by decide +kernel
theorem dX10_work_74 : decode cX10_work 74 = .ok (.iload_n 1, 1) := by decide +kernel
theorem dX10_work_75 : decode cX10_work 75 = .ok (.bipush (-8), 2) := by decide +kernel
theorem dX10_work_77 : decode cX10_work 77 = .ok (.if_icmp .ne 15, 3) := by decide +kernel
theorem dX10_work_80 : decode cX10_work 80 = .ok (.aload_n 0, 1) := by decide +kernel
theorem dX10_work_81 : decode cX10_work 81 = .ok (.getfield 15, 3) := by decide +kernel
theorem dX10_work_84 : decode cX10_work 84 = .ok (.iload_n 2, 1) := by decide +kernel
theorem dX10_work_85 : decode cX10_work 85 = .ok (.iconst 1, 1) := by decide +kernel
theorem dX10_work_86 : decode cX10_work 86 = .ok (.isub, 1) := by decide +kernel
theorem dX10_work_87 : decode cX10_work 87 = .ok (.iaload, 1) := by decide +kernel
theorem dX10_work_88 : decode cX10_work 88 = .ok (.ineg, 1) := by decide +kernel
theorem dX10_work_89 : decode cX10_work 89 = .ok (.goto 19, 3) := by decide +kernel
theorem dX10_work_92 : decode cX10_work 92 = .ok (.aload_n 0, 1) := by decide +kernel
theorem dX10_work_93 : decode cX10_work 93 = .ok (.getfield 15, 3) := by decide +kernel
theorem dX10_work_96 : decode cX10_work 96 = .ok (.iload_n 2, 1) := by decide +kernel
theorem dX10_work_97 : decode cX10_work 97 = .ok (.iconst 1, 1) := by decide +kernel
theorem dX10_work_98 : decode cX10_work 98 = .ok (.isub, 1) := by decide +kernel
theorem dX10_work_99 : decode cX10_work 99 = .ok (.iaload, 1) := by decide +kernel
theorem dX10_work_100 : decode cX10_work 100 = .ok (.ifCond .ne 7, 3) := by decide +kernel
theorem dX10_work_103 : decode cX10_work 103 = .ok (.iconst 1, 1) := by decide +kernel
theorem dX10_work_104 : decode cX10_work 104 = .ok (.goto 4, 3) := by decide +kernel
theorem dX10_work_107 : decode cX10_work 107 = .ok (.iconst 0, 1) := by decide +kernel
theorem dX10_work_108 : decode cX10_work 108 = .ok (.iastore, 1) := by decide +kernel
theorem dX10_work_109 : decode cX10_work 109 = .ok (.iload_n 2, 1) := by decide +kernel
theorem dX10_work_110 : decode cX10_work 110 = .ok (.ireturn, 1) := by decide +kernel
theorem dX10_work_111 : decode cX10_work 111 = .ok (.iload_n 2, 1) := by decide +kernel
theorem dX10_work_112 : decode cX10_work 112 = .ok (.iconst 2, 1) := by decide +kernel
theorem dX10_work_113 : decode cX10_work 113 = .ok (.if_icmp .lt 12, 3) := by decide +kernel
theorem dX10_work_116 : decode cX10_work 116 = .ok (.iload_n 2, 1) := by decide +kernel
theorem dX10_work_117 : decode cX10_work 117 = .ok (.aload_n 0, 1) := by decide +kernel
theorem dX10_work_118 : decode cX10_work 118 = .ok (.getfield 15, 3) := by decide +kernel
theorem dX10_work_121 : decode cX10_work 121 = .ok (.arraylength, 1) := by decide +kernel
theorem dX10_work_122 : decode cX10_work 122 = .ok (.if_icmp .le 5, 3) := by decide +kernel
theorem dX10_work_125 : decode cX10_work 125 = .ok (.iload_n 2, 1) := by decide +kernel
theorem dX10_work_126 : decode cX10_work 126 = .ok (.ireturn, 1) := by decide +kernel
theorem dX10_work_127 : decode cX10_work 127 = .ok (.aload_n 0, 1) := by decide +kernel
theorem dX10_work_128 : decode cX10_work 128 = .ok (.getfield 15, 3) := by decide +kernel
theorem dX10_work_131 : decode cX10_work 131 = .ok (.iload_n 2, 1) := by decide +kernel
theorem dX10_work_132 : decode cX10_work 132 = .ok (.iconst 2, 1) := by decide +kernel
theorem dX10_work_133 : decode cX10_work 133 = .ok (.isub, 1) := by decide +kernel
theorem dX10_work_134 : decode cX10_work 134 = .ok (.iload_n 1, 1) := by decide +kernel
theorem dX10_work_135 : decode cX10_work 135 = .ok (.aload_n 0, 1) := by decide +kernel
theorem dX10_work_136 : decode cX10_work 136 = .ok (.getfield 15, 3) := by decide +kernel
theorem dX10_work_139 : decode cX10_work 139 = .ok (.iload_n 2, 1) := by decide +kernel
theorem dX10_work_140 : decode cX10_work 140 = .ok (.iconst 2, 1) := by decide +kernel
theorem dX10_work_141 : decode cX10_work 141 = .ok (.isub, 1) := by decide +kernel
theorem dX10_work_142 : decode cX10_work 142 = .ok (.iaload, 1) := by decide +kernel
theorem dX10_work_143 : decode cX10_work 143 = .ok (.aload_n 0, 1) := by decide +kernel
theorem dX10_work_144 : decode cX10_work 144 = .ok (.getfield 15, 3) := by decide +kernel
theorem dX10_work_147 : decode cX10_work 147 = .ok (.iload_n 2, 1) := by decide +kernel
theorem dX10_work_148 : decode cX10_work 148 = .ok (.iconst 1, 1) := by decide +kernel
theorem dX10_work_149 : decode cX10_work 149 = .ok (.isub, 1) := by decide +kernel
theorem dX10_work_150 : decode cX10_work 150 = .ok (.iaload, 1) := by decide +kernel
theorem dX10_work_151 : decode cX10_work 151 = .ok (.invokestatic 43, 3) := by decide +kernel
theorem dX10_work_154 : decode cX10_work 154 = .ok (.iastore, 1) := by decide +kernel
theorem dX10_work_155 : decode cX10_work 155 = .ok (.iload_n 2, 1) := by decide +kernel
theorem dX10_work_156 : decode cX10_work 156 = .ok (.iconst 1, 1) := by decide +kernel
theorem dX10_work_157 : decode cX10_work 157 = .ok (.isub, 1) := by decide +kernel
theorem dX10_work_158 : decode cX10_work 158 = .ok (.ireturn, 1) := by decide +kernel
theorem dX10_join_0 : decode cX10_join 0 = .ok (.iload_n 0, 1) := by decide +kernel
theorem dX10_join_1 : decode cX10_join 1 = .ok (.tableswitch 97 (-14) (-9) #[93, 89, 78, 67, 53, 39], 39) := by decide +kernel
theorem dX10_join_40 : decode cX10_join 40 = .ok (.iload_n 1, 1) := by decide +kernel
theorem dX10_join_41 : decode cX10_join 41 = .ok (.ifCond .ne 7, 3) := by decide +kernel
theorem dX10_join_44 : decode cX10_join 44 = .ok (.iload_n 2, 1) := by decide +kernel
theorem dX10_join_45 : decode cX10_join 45 = .ok (.ifCond .eq 7, 3) := by decide +kernel
theorem dX10_join_48 : decode cX10_join 48 = .ok (.iconst 1, 1) := by decide +kernel
theorem dX10_join_49 : decode cX10_join 49 = .ok (.goto 4, 3) := by decide +kernel
theorem dX10_join_52 : decode cX10_join 52 = .ok (.iconst 0, 1) := by decide +kernel
theorem dX10_join_53 : decode cX10_join 53 = .ok (.ireturn, 1) := by decide +kernel
theorem dX10_join_54 : decode cX10_join 54 = .ok (.iload_n 1, 1) := by decide +kernel
theorem dX10_join_55 : decode cX10_join 55 = .ok (.ifCond .eq 11, 3) := by decide +kernel
theorem dX10_join_58 : decode cX10_join 58 = .ok (.iload_n 2, 1) := by decide +kernel
theorem dX10_join_59 : decode cX10_join 59 = .ok (.ifCond .eq 7, 3) := by decide +kernel
theorem dX10_join_62 : decode cX10_join 62 = .ok (.iconst 1, 1) := by decide +kernel
theorem dX10_join_63 : decode cX10_join 63 = .ok (.goto 4, 3) := by decide +kernel
theorem dX10_join_66 : decode cX10_join 66 = .ok (.iconst 0, 1) := by decide +kernel
theorem dX10_join_67 : decode cX10_join 67 = .ok (.ireturn, 1) := by decide +kernel
theorem dX10_join_68 : decode cX10_join 68 = .ok (.iload_n 1, 1) := by decide +kernel
theorem dX10_join_69 : decode cX10_join 69 = .ok (.iload_n 2, 1) := by decide +kernel
theorem dX10_join_70 : decode cX10_join 70 = .ok (.if_icmp .ge 7, 3) := by decide +kernel
theorem dX10_join_73 : decode cX10_join 73 = .ok (.iconst 1, 1) := by decide +kernel
theorem dX10_join_74 : decode cX10_join 74 = .ok (.goto 4, 3) := by decide +kernel
theorem dX10_join_77 : decode cX10_join 77 = .ok (.iconst 0, 1) := by decide +kernel
theorem dX10_join_78 : decode cX10_join 78 = .ok (.ireturn, 1) := by decide +kernel
theorem dX10_join_79 : decode cX10_join 79 = .ok (.iload_n 1, 1) := by decide +kernel
theorem dX10_join_80 : decode cX10_join 80 = .ok (.iload_n 2, 1) := by decide +kernel
theorem dX10_join_81 : decode cX10_join 81 = .ok (.if_icmp .ne 7, 3) := by decide +kernel
theorem dX10_join_84 : decode cX10_join 84 = .ok (.iconst 1, 1) := by decide +kernel
theorem dX10_join_85 : decode cX10_join 85 = .ok (.goto 4, 3) := by decide +kernel
theorem dX10_join_88 : decode cX10_join 88 = .ok (.iconst 0, 1) := by decide +kernel
theorem dX10_join_89 : decode cX10_join 89 = .ok (.ireturn, 1) := by decide +kernel
theorem dX10_join_90 : decode cX10_join 90 = .ok (.iload_n 1, 1) := by decide +kernel
theorem dX10_join_91 : decode cX10_join 91 = .ok (.iload_n 2, 1) := by decide +kernel
theorem dX10_join_92 : decode cX10_join 92 = .ok (.iadd, 1) := by decide +kernel
theorem dX10_join_93 : decode cX10_join 93 = .ok (.ireturn, 1) := by decide +kernel
theorem dX10_join_94 : decode cX10_join 94 = .ok (.iload_n 1, 1) := by decide +kernel
theorem dX10_join_95 : decode cX10_join 95 = .ok (.iload_n 2, 1) := by decide +kernel
theorem dX10_join_96 : decode cX10_join 96 = .ok (.isub, 1) := by decide +kernel
theorem dX10_join_97 : decode cX10_join 97 = .ok (.ireturn, 1) := by decide +kernel
theorem dX10_join_98 : decode cX10_join 98 = .ok (.iload_n 1, 1) := by decide +kernel
theorem dX10_join_99 : decode cX10_join 99 = .ok (.iload_n 2, 1) := by decide +kernel
theorem dX10_join_100 : decode cX10_join 100 = .ok (.imul, 1) := by decide +kernel
theorem dX10_join_101 : decode cX10_join 101 = .ok (.ireturn, 1) := by decide +kernel
theorem dX11_init_0 : decode cX11_init 0 = .ok (.aload_n 0, 1) := by decide +kernel
theorem dX11_init_1 : decode cX11_init 1 = .ok (.invokespecial 1, 3) := by decide +kernel
theorem dX11_init_4 : decode cX11_init 4 = .ok (.aload_n 0, 1) := by decide +kernel
theorem dX11_init_5 : decode cX11_init 5 = .ok (.bipush 6, 2) := by decide +kernel
theorem dX11_init_7 : decode cX11_init 7 = .ok (.anewarray 9, 3) := by decide +kernel
theorem dX11_init_10 : decode cX11_init 10 = .ok (.putfield 11, 3) := by decide +kernel
theorem dX11_init_13 : decode cX11_init 13 = .ok (.aload_n 0, 1) := by decide +kernel
theorem dX11_init_14 : decode cX11_init 14 = .ok (.new 15, 3) := by decide +kernel
theorem dX11_init_17 : decode cX11_init 17 = .ok (.dup, 1) := by decide +kernel
theorem dX11_init_18 : decode cX11_init 18 = .ok (.invokespecial 17, 3) := by decide +kernel
theorem dX11_init_21 : decode cX11_init 21 = .ok (.putfield 18, 3) := by decide +kernel
theorem dX11_init_24 : decode cX11_init 24 = .ok (.aload_n 0, 1) := by decide +kernel
theorem dX11_init_25 : decode cX11_init 25 = .ok (.iconst 1, 1) := by decide +kernel
theorem dX11_init_26 : decode cX11_init 26 = .ok (.putfield 22, 3) := by decide +kernel
theorem dX11_init_29 : decode cX11_init 29 = .ok (.aload_n 0, 1) := by decide +kernel
theorem dX11_init_30 : decode cX11_init 30 = .ok (.bipush 6, 2) := by decide +kernel
theorem dX11_init_32 : decode cX11_init 32 = .ok (.anewarray 26, 3) := by decide +kernel
theorem dX11_init_35 : decode cX11_init 35 = .ok (.putfield 28, 3) := by decide +kernel
theorem dX11_init_38 : decode cX11_init 38 = .ok (.aload_n 0, 1) := by decide +kernel
theorem dX11_init_39 : decode cX11_init 39 = .ok (.iconst 0, 1) := by decide +kernel
theorem dX11_init_40 : decode cX11_init 40 = .ok (.putfield 32, 3) := by decide +kernel
theorem dX11_init_43 : decode cX11_init 43 = .ok (.aload_n 0, 1) := by decide +kernel
theorem dX11_init_44 : decode cX11_init 44 = .ok (.bipush 6, 2) := by decide +kernel
theorem dX11_init_46 : decode cX11_init 46 = .ok (.anewarray 35, 3) := by decide +kernel
theorem dX11_init_49 : decode cX11_init 49 = .ok (.putfield 37, 3) := by decide +kernel
theorem dX11_init_52 : decode cX11_init 52 = .ok (.aload_n 0, 1) := by decide +kernel
theorem dX11_init_53 : decode cX11_init 53 = .ok (.bipush 6, 2) := by decide +kernel
theorem dX11_init_55 : decode cX11_init 55 = .ok (.newarray .int, 2) := by decide +kernel
theorem dX11_init_57 : decode cX11_init 57 = .ok (.putfield 41, 3) := by decide +kernel
theorem dX11_init_60 : decode cX11_init 60 = .ok (.aload_n 0, 1) := by decide +kernel
theorem dX11_init_61 : decode cX11_init 61 = .ok (.bipush 6, 2) := by decide +kernel
theorem dX11_init_63 : decode cX11_init 63 = .ok (.newarray .int, 2) := by decide +kernel
theorem dX11_init_65 : decode cX11_init 65 = .ok (.putfield 45, 3) := by decide +kernel
theorem dX11_init_68 : decode cX11_init 68 = .ok (.aload_n 0, 1) := by decide +kernel
theorem dX11_init_69 : decode cX11_init 69 = .ok (.iconst (-1), 1) := by decide +kernel
theorem dX11_init_70 : decode cX11_init 70 = .ok (.putfield 48, 3) := by decide +kernel
theorem dX11_init_73 : decode cX11_init 73 = .ok (.aload_n 0, 1) := by decide +kernel
theorem dX11_init_74 : decode cX11_init 74 = .ok (.iconst 4, 1) := by decide +kernel
theorem dX11_init_75 : decode cX11_init 75 = .ok (.anewarray 51, 3) := by decide +kernel
theorem dX11_init_78 : decode cX11_init 78 = .ok (.putfield 53, 3) := by decide +kernel
theorem dX11_init_81 : decode cX11_init 81 = .ok (.aload_n 0, 1) := by decide +kernel
theorem dX11_init_82 : decode cX11_init 82 = .ok (.bipush 40, 2) := by decide +kernel
theorem dX11_init_84 : decode cX11_init 84 = .ok (.newarray .int, 2) := by decide +kernel
theorem dX11_init_86 : decode cX11_init 86 = .ok (.putfield 57, 3) := by decide +kernel
theorem dX11_init_89 : decode cX11_init 89 = .ok (.aload_n 0, 1) := by decide +kernel
theorem dX11_init_90 : decode cX11_init 90 = .ok (.iconst 0, 1) := by decide +kernel
theorem dX11_init_91 : decode cX11_init 91 = .ok (.putfield 60, 3) := by decide +kernel
theorem dX11_init_94 : decode cX11_init 94 = .ok (.aload_n 0, 1) := by decide +kernel
theorem dX11_init_95 : decode cX11_init 95 = .ok (.ldc2_w 63, 3) := by decide +kernel
theorem dX11_init_98 : decode cX11_init 98 = .ok (.putfield 65, 3) := by decide +kernel
theorem dX11_init_101 : decode cX11_init 101 = .ok (.aload_n 0, 1) := by decide +kernel
theorem dX11_init_102 : decode cX11_init 102 = .ok (.iconst (-1), 1) := by decide +kernel
theorem dX11_init_103 : decode cX11_init 103 = .ok (.putfield 69, 3) := by decide +kernel
theorem dX11_init_106 : decode cX11_init 106 = .ok (.aload_n 0, 1) := by decide +kernel
theorem dX11_init_107 : decode cX11_init 107 = .ok (.iconst (-1), 1) := by decide +kernel
theorem dX11_init_108 : decode cX11_init 108 = .ok (.putfield 72, 3) := by decide +kernel
theorem dX11_init_111 : decode cX11_init 111 = .ok (.aload_n 0, 1) := by decide +kernel
theorem dX11_init_112 : decode cX11_init 112 = .ok (.iconst (-1), 1) := by decide +kernel
theorem dX11_init_113 : decode cX11_init 113 = .ok (.putfield 75, 3) := by decide +kernel
theorem dX11_init_116 : decode cX11_init 116 = .ok (.iconst 0, 1) := by decide +kernel
theorem dX11_init_117 : decode cX11_init 117 = .ok (.istore_n 1, 1) := by decide +kernel
theorem dX11_init_118 : decode cX11_init 118 = .ok (.iload_n 1, 1) := by decide +kernel
theorem dX11_init_119 : decode cX11_init 119 = .ok (.bipush 6, 2) := by decide +kernel
theorem dX11_init_121 : decode cX11_init 121 = .ok (.if_icmp .ge 23, 3) := by decide +kernel
theorem dX11_init_124 : decode cX11_init 124 = .ok (.aload_n 0, 1) := by decide +kernel
theorem dX11_init_125 : decode cX11_init 125 = .ok (.getfield 11, 3) := by decide +kernel
theorem dX11_init_128 : decode cX11_init 128 = .ok (.iload_n 1, 1) := by decide +kernel
theorem dX11_init_129 : decode cX11_init 129 = .ok (.new 9, 3) := by decide +kernel
theorem dX11_init_132 : decode cX11_init 132 = .ok (.dup, 1) := by decide +kernel
theorem dX11_init_133 : decode cX11_init 133 = .ok (.iload_n 1, 1) := by decide +kernel
theorem dX11_init_134 : decode cX11_init 134 = .ok (.invokespecial 78, 3) := by decide +kernel
theorem dX11_init_137 : decode cX11_init 137 = .ok (.aastore, 1) := by decide +kernel
theorem dX11_init_138 : decode cX11_init 138 = .ok (.iinc 1 1, 3) := by decide +kernel
theorem dX11_init_141 : decode cX11_init 141 = .ok (.goto (-23), 3) := by decide +kernel
theorem dX11_init_144 : decode cX11_init 144 = .ok (.aload_n 0, 1) := by decide +kernel
theorem dX11_init_145 : decode cX11_init 145 = .ok (.getfield 18, 3) := by decide +kernel
theorem dX11_init_148 : decode cX11_init 148 = .ok (.ldc 81, 2) := by decide +kernel
theorem dX11_init_150 : decode cX11_init 150 = .ok (.invokevirtual 83, 3) := by decide +kernel
theorem dX11_init_153 : decode cX11_init 153 = .ok (.aload_n 0, 1) := by decide +kernel
theorem dX11_init_154 : decode cX11_init 154 = .ok (.getfield 18, 3) := by decide +kernel
theorem dX11_init_157 : decode cX11_init 157 = .ok (.aload_n 0, 1) := by decide +kernel
theorem dX11_init_158 : decode cX11_init 158 = .ok (.getfield 11, 3) := by decide +kernel
theorem dX11_init_161 : decode cX11_init 161 = .ok (.iconst 0, 1) := by decide +kernel
theorem dX11_init_162 : decode cX11_init 162 = .ok (.aaload, 1) := by decide +kernel
theorem dX11_init_163 : decode cX11_init 163 = .ok (.invokevirtual 87, 3) := by decide +kernel
theorem dX11_init_166 : decode cX11_init 166 = .ok (.pop, 1) := by decide +kernel
theorem dX11_init_167 : decode cX11_init 167 = .ok (.aload_n 0, 1) := by decide +kernel
theorem dX11_init_168 : decode cX11_init 168 = .ok (.getfield 18, 3) := by decide +kernel
theorem dX11_init_171 : decode cX11_init 171 = .ok (.iconst 0, 1) := by decide +kernel
theorem dX11_init_172 : decode cX11_init 172 = .ok (.putfield 91, 3) := by decide +kernel
theorem dX11_init_175 : decode cX11_init 175 = .ok (.aload_n 0, 1) := by decide +kernel
theorem dX11_init_176 : decode cX11_init 176 = .ok (.new 35, 3) := by decide +kernel
theorem dX11_init_179 : decode cX11_init 179 = .ok (.dup, 1) := by decide +kernel
theorem dX11_init_180 : decode cX11_init 180 = .ok (.aload_n 0, 1) := by decide +kernel
theorem dX11_init_181 : decode cX11_init 181 = .ok (.getfield 11, 3) := by decide +kernel
theorem dX11_init_184 : decode cX11_init 184 = .ok (.iconst 0, 1) := by decide +kernel
theorem dX11_init_185 : decode cX11_init 185 = .ok (.aaload, 1) := by decide +kernel
theorem dX11_init_186 : decode cX11_init 186 = .ok (.invokespecial 94, 3) := by decide +kernel
theorem dX11_init_189 : decode cX11_init 189 = .ok (.putfield 97, 3) := by decide +kernel
theorem dX11_init_192 : decode cX11_init 192 = .ok (.aload_n 0, 1) := by decide +kernel
theorem dX11_init_193 : decode cX11_init 193 = .ok (.new 35, 3) := by decide +kernel
theorem dX11_init_196 : decode cX11_init 196 = .ok (.dup, 1) := by decide +kernel
theorem dX11_init_197 : decode cX11_init 197 = .ok (.aload_n 0, 1) := by decide +kernel
theorem dX11_init_198 : decode cX11_init 198 = .ok (.getfield 11, 3) := by decide +kernel
theorem dX11_init_201 : decode cX11_init 201 = .ok (.iconst 0, 1) := by decide +kernel
theorem dX11_init_202 : decode cX11_init 202 = .ok (.aaload, 1) := by decide +kernel
theorem dX11_init_203 : decode cX11_init 203 = .ok (.invokespecial 94, 3) := by decide +kernel
theorem dX11_init_206 : decode cX11_init 206 = .ok (.putfield 101, 3) := by decide +kernel
theorem dX11_init_209 : decode cX11_init 209 = .ok (.aload_n 0, 1) := by decide +kernel
theorem dX11_init_210 : decode cX11_init 210 = .ok (.new 35, 3) := by decide +kernel
theorem dX11_init_213 : decode cX11_init 213 = .ok (.dup, 1) := by decide +kernel
theorem dX11_init_214 : decode cX11_init 214 = .ok (.aload_n 0, 1) := by decide +kernel
theorem dX11_init_215 : decode cX11_init 215 = .ok (.getfield 11, 3) := by decide +kernel
theorem dX11_init_218 : decode cX11_init 218 = .ok (.iconst 0, 1) := by decide +kernel
theorem dX11_init_219 : decode cX11_init 219 = .ok (.aaload, 1) := by decide +kernel
theorem dX11_init_220 : decode cX11_init 220 = .ok (.invokespecial 94, 3) := by decide +kernel
theorem dX11_init_223 : decode cX11_init 223 = .ok (.putfield 104, 3) := by decide +kernel
theorem dX11_init_226 : decode cX11_init 226 = .ok (.iconst 0, 1) := by decide +kernel
theorem dX11_init_227 : decode cX11_init 227 = .ok (.istore_n 1, 1) := by decide +kernel
theorem dX11_init_228 : decode cX11_init 228 = .ok (.iload_n 1, 1) := by decide +kernel
theorem dX11_init_229 : decode cX11_init 229 = .ok (.iconst 5, 1) := by decide +kernel
theorem dX11_init_230 : decode cX11_init 230 = .ok (.if_icmp .gt 28, 3) := by decide +kernel
theorem dX11_init_233 : decode cX11_init 233 = .ok (.aload_n 0, 1) := by decide +kernel
theorem dX11_init_234 : decode cX11_init 234 = .ok (.getfield 37, 3) := by decide +kernel
theorem dX11_init_237 : decode cX11_init 237 = .ok (.iload_n 1, 1) := by decide +kernel
theorem dX11_init_238 : decode cX11_init 238 = .ok (.new 35, 3) := by decide +kernel
theorem dX11_init_241 : decode cX11_init 241 = .ok (.dup, 1) := by decide +kernel
theorem dX11_init_242 : decode cX11_init 242 = .ok (.aload_n 0, 1) := by decide +kernel
theorem dX11_init_243 : decode cX11_init 243 = .ok (.getfield 11, 3) := by decide +kernel
theorem dX11_init_246 : decode cX11_init 246 = .ok (.iconst 0, 1) := by decide +kernel
theorem dX11_init_247 : decode cX11_init 247 = .ok (.aaload, 1) := by decide +kernel
theorem dX11_init_248 : decode cX11_init 248 = .ok (.invokespecial 94, 3) := by decide +kernel
theorem dX11_init_251 : decode cX11_init 251 = .ok (.aastore, 1) := by decide +kernel
theorem dX11_init_252 : decode cX11_init 252 = .ok (.iinc 1 1, 3) := by decide +kernel
theorem dX11_init_255 : decode cX11_init 255 = .ok (.goto (-27), 3) := by decide +kernel
theorem dX11_init_258 : decode cX11_init 258 = .ok (.iconst 0, 1) := by decide +kernel
theorem dX11_init_259 : decode cX11_init 259 = .ok (.istore_n 1, 1) := by decide +kernel
theorem dX11_init_260 : decode cX11_init 260 = .ok (.iload_n 1, 1) := by decide +kernel
theorem dX11_init_261 : decode cX11_init 261 = .ok (.iconst 4, 1) := by decide +kernel
theorem dX11_init_262 : decode cX11_init 262 = .ok (.if_icmp .ge 22, 3) := by decide +kernel
theorem dX11_init_265 : decode cX11_init 265 = .ok (.aload_n 0, 1) := by decide +kernel
theorem dX11_init_266 : decode cX11_init 266 = .ok (.getfield 53, 3) := by decide +kernel
theorem dX11_init_269 : decode cX11_init 269 = .ok (.iload_n 1, 1) := by decide +kernel
theorem dX11_init_270 : decode cX11_init 270 = .ok (.new 51, 3) := by decide +kernel
theorem dX11_init_273 : decode cX11_init 273 = .ok (.dup, 1) := by decide +kernel
theorem dX11_init_274 : decode cX11_init 274 = .ok (.invokespecial 107, 3) := by decide +kernel
theorem dX11_init_277 : decode cX11_init 277 = .ok (.aastore, 1) := by decide +kernel
theorem dX11_init_278 : decode cX11_init 278 = .ok (.iinc 1 1, 3) := by decide +kernel
theorem dX11_init_281 : decode cX11_init 281 = .ok (.goto (-21), 3) := by decide +kernel
theorem dX11_init_284 : decode cX11_init 284 = .ok (.return_, 1) := by decide +kernel
theorem dX11_set_0 : decode cX11_set 0 = .ok (.iload_n 1, 1) := by decide +kernel
theorem dX11_set_1 : decode cX11_set 1 = .ok (.iload_n 3, 1) := by decide +kernel
theorem dX11_set_2 : decode cX11_set 2 = .ok (.invokestatic 108, 3) := by decide +kernel
theorem dX11_set_5 : decode cX11_set 5 = .ok (.ifCond .ne 6, 3) := by decide +kernel
theorem dX11_set_8 : decode cX11_set 8 = .ok (.bipush (-100), 2) := by decide +kernel
theorem dX11_set_10 : decode cX11_set 10 = .ok (.ireturn, 1) := by decide +kernel
theorem dX11_set_11 : decode cX11_set 11 = .ok (.iload_n 1, 1) := by decide +kernel
theorem dX11_set_12 : decode cX11_set 12 = .ok (.bipush 6, 2) := by decide +kernel
theorem dX11_set_14 : decode cX11_set 14 = .ok (.if_icmp .ne 23, 3) := by decide +kernel
theorem dX11_set_17 : decode cX11_set 17 = .ok (.aload_n 0, 1) := by decide +kernel
theorem dX11_set_18 : decode cX11_set 18 = .ok (.getfield 97, 3) := by decide +kernel
theorem dX11_set_21 : decode cX11_set 21 = .ok (.getfield 112, 3) := by decide +kernel
theorem dX11_set_24 : decode cX11_set 24 = .ok (.istore 4, 2) := by decide +kernel
theorem dX11_set_26 : decode cX11_set 26 = .ok (.aload_n 0, 1) := by decide +kernel
theorem dX11_set_27 : decode cX11_set 27 = .ok (.getfield 97, 3) := by decide +kernel
theorem dX11_set_30 : decode cX11_set 30 = .ok (.iload_n 3, 1) := by decide +kernel
theorem dX11_set_31 : decode cX11_set 31 = .ok (.putfield 112, 3) := by decide +kernel
theorem dX11_set_34 : decode cX11_set 34 = .ok (.iload 4, 2) := by decide +kernel
theorem dX11_set_36 : decode cX11_set 36 = .ok (.ireturn, 1) := by decide +kernel
theorem dX11_set_37 : decode cX11_set 37 = .ok (.iload_n 1, 1) := by decide +kernel
theorem dX11_set_38 : decode cX11_set 38 = .ok (.iconst 3, 1) := by decide +kernel
theorem dX11_set_39 : decode cX11_set 39 = .ok (.if_icmp .gt 29, 3) := by decide +kernel
theorem dX11_set_42 : decode cX11_set 42 = .ok (.iload_n 2, 1) := by decide +kernel
theorem dX11_set_43 : decode cX11_set 43 = .ok (.invokestatic 115, 3) := by decide +kernel
theorem dX11_set_46 : decode cX11_set 46 = .ok (.ifCond .eq 19, 3) := by decide +kernel
theorem dX11_set_49 : decode cX11_set 49 = .ok (.aload_n 0, 1) := by decide +kernel
theorem dX11_set_50 : decode cX11_set 50 = .ok (.getfield 97, 3) := by decide +kernel
theorem dX11_set_53 : decode cX11_set 53 = .ok (.iload_n 2, 1) := by decide +kernel
theorem dX11_set_54 : decode cX11_set 54 = .ok (.invokevirtual 119, 3) := by decide +kernel
theorem dX11_set_57 : decode cX11_set 57 = .ok (.iload_n 1, 1) := by decide +kernel
theorem dX11_set_58 : decode cX11_set 58 = .ok (.iload_n 3, 1) := by decide +kernel
theorem dX11_set_59 : decode cX11_set 59 = .ok (.invokevirtual 123, 3) := by decide +kernel
theorem dX11_set_62 : decode cX11_set 62 = .ok (.goto 5, 3) := by decide +kernel
theorem dX11_set_65 : decode cX11_set 65 = .ok (.bipush (-100), 2) := by decide +kernel
theorem dX11_set_67 : decode cX11_set 67 = .ok (.ireturn, 1) := by decide +kernel
theorem dX11_set_68 : decode cX11_set 68 = .ok (.aload_n 0, 1) := by decide +kernel
theorem dX11_set_69 : decode cX11_set 69 = .ok (.iload_n 2, 1) := by decide +kernel
theorem dX11_set_70 : decode cX11_set 70 = .ok (.invokevirtual 129, 3) := by decide +kernel
theorem dX11_set_73 : decode cX11_set 73 = .ok (.astore 4, 2) := by decide +kernel
theorem dX11_set_75 : decode cX11_set 75 = .ok (.aload 4, 2) := by decide +kernel
theorem dX11_set_77 : decode cX11_set 77 = .ok (.ifnonnull 8, 3) := by decide +kernel
theorem dX11_set_80 : decode cX11_set 80 = .ok (.bipush (-100), 2) := by decide +kernel
theorem dX11_set_82 : decode cX11_set 82 = .ok (.goto 10, 3) := by decide +kernel
theorem dX11_set_85 : decode cX11_set 85 = .ok (.aload 4, 2) := by decide +kernel
theorem dX11_set_87 : decode cX11_set 87 = .ok (.iload_n 1, 1) := by decide +kernel
theorem dX11_set_88 : decode cX11_set 88 = .ok (.iload_n 3, 1) := by decide +kernel
theorem dX11_set_89 : decode cX11_set 89 = .ok (.invokevirtual 133, 3) := by decide +kernel
theorem dX11_set_92 : decode cX11_set 92 = .ok (.ireturn, 1) := by decide +kernel
theorem dX11_stroke_0 : decode cX11_stroke 0 = .ok (.iload_n 2, 1) := by decide +kernel
theorem dX11_stroke_1 : decode cX11_stroke 1 = .ok (.ifCond .lt 16, 3) := by decide +kernel
theorem dX11_stroke_4 : decode cX11_stroke 4 = .ok (.iload_n 2, 1) := by decide +kernel
theorem dX11_stroke_5 : decode cX11_stroke 5 = .ok (.bipush 9, 2) := by decide +kernel
theorem dX11_stroke_7 : decode cX11_stroke 7 = .ok (.if_icmp .gt 10, 3) := by decide +kernel
theorem dX11_stroke_10 : decode cX11_stroke 10 = .ok (.iload_n 3, 1) := by decide +kernel
theorem dX11_stroke_11 : decode cX11_stroke 11 = .ok (.invokestatic 134, 3) := by decide +kernel
theorem dX11_stroke_14 : decode cX11_stroke 14 = .ok (.ifCond .ne 6, 3) := by decide +kernel
theorem dX11_stroke_17 : decode cX11_stroke 17 = .ok (.bipush (-2), 2) := by decide +kernel
theorem dX11_stroke_19 : decode cX11_stroke 19 = .ok (.ireturn, 1) := by decide +kernel
theorem dX11_stroke_20 : decode cX11_stroke 20 = .ok (.iload_n 1, 1) := by decide +kernel
theorem dX11_stroke_21 : decode cX11_stroke 21 = .ok (.ifCond .lt 8, 3) := by decide +kernel
theorem dX11_stroke_24 : decode cX11_stroke 24 = .ok (.iload_n 1, 1) := by decide +kernel
theorem dX11_stroke_25 : decode cX11_stroke 25 = .ok (.iconst 5, 1) := by decide +kernel
theorem dX11_stroke_26 : decode cX11_stroke 26 = .ok (.if_icmp .le 6, 3) := by decide +kernel
theorem dX11_stroke_29 : decode cX11_stroke 29 = .ok (.bipush (-2), 2) := by decide +kernel
theorem dX11_stroke_31 : decode cX11_stroke 31 = .ok (.ireturn, 1) := by decide +kernel
theorem dX11_stroke_32 : decode cX11_stroke 32 = .ok (.aload_n 0, 1) := by decide +kernel
theorem dX11_stroke_33 : decode cX11_stroke 33 = .ok (.getfield 32, 3) := by decide +kernel
theorem dX11_stroke_36 : decode cX11_stroke 36 = .ok (.bipush 6, 2) := by decide +kernel
theorem dX11_stroke_38 : decode cX11_stroke 38 = .ok (.if_icmp .lt 6, 3) := by decide +kernel
theorem dX11_stroke_41 : decode cX11_stroke 41 = .ok (.bipush (-4), 2) := by decide +kernel
theorem dX11_stroke_43 : decode cX11_stroke 43 = .ok (.ireturn, 1) := by decide +kernel
theorem dX11_stroke_44 : decode cX11_stroke 44 = .ok (.aload_n 0, 1) := by decide +kernel
theorem dX11_stroke_45 : decode cX11_stroke 45 = .ok (.getfield 28, 3) := by decide +kernel
theorem dX11_stroke_48 : decode cX11_stroke 48 = .ok (.aload_n 0, 1) := by decide +kernel
theorem dX11_stroke_49 : decode cX11_stroke 49 = .ok (.getfield 32, 3) := by decide +kernel
theorem dX11_stroke_52 : decode cX11_stroke 52 = .ok (.iload_n 1, 1) := by decide +kernel
theorem dX11_stroke_53 : decode cX11_stroke 53 = .ok (.iload_n 2, 1) := by decide +kernel
theorem dX11_stroke_54 : decode cX11_stroke 54 = .ok (.iload_n 3, 1) := by decide +kernel
theorem dX11_stroke_55 : decode cX11_stroke 55 = .ok (.invokestatic 137, 3) := by decide +kernel
theorem dX11_stroke_58 : decode cX11_stroke 58 = .ok (.aastore, 1) := by decide +kernel
theorem dX11_stroke_59 : decode cX11_stroke 59 = .ok (.aload_n 0, 1) := by decide +kernel
theorem dX11_stroke_60 : decode cX11_stroke 60 = .ok (.dup, 1) := by decide +kernel
theorem dX11_stroke_61 : decode cX11_stroke 61 = .ok (.getfield 32, 3) := by decide +kernel
theorem dX11_stroke_64 : decode cX11_stroke 64 = .ok (.iconst 1, 1) := by decide +kernel
theorem dX11_stroke_65 : decode cX11_stroke 65 = .ok (.iadd, 1) := by decide +kernel
theorem dX11_stroke_66 : decode cX11_stroke 66 = .ok (.putfield 32, 3) := by decide +kernel
theorem dX11_stroke_69 : decode cX11_stroke 69 = .ok (.aload_n 0, 1) := by decide +kernel
theorem dX11_stroke_70 : decode cX11_stroke 70 = .ok (.getfield 32, 3) := by decide +kernel
theorem dX11_stroke_73 : decode cX11_stroke 73 = .ok (.iconst 1, 1) := by decide +kernel
theorem dX11_stroke_74 : decode cX11_stroke 74 = .ok (.isub, 1) := by decide +kernel
theorem dX11_stroke_75 : decode cX11_stroke 75 = .ok (.ireturn, 1) := by decide +kernel
theorem dX11_told_0 : decode cX11_told 0 = .ok (.iload_n 2, 1) := by decide +kernel
theorem dX11_told_1 : decode cX11_told 1 = .ok (.ifCond .lt 33, 3) := by decide +kernel
theorem dX11_told_4 : decode cX11_told 4 = .ok (.iload_n 2, 1) := by decide +kernel
theorem dX11_told_5 : decode cX11_told 5 = .ok (.iconst 3, 1) := by decide +kernel
theorem dX11_told_6 : decode cX11_told 6 = .ok (.if_icmp .gt 28, 3) := by decide +kernel
theorem dX11_told_9 : decode cX11_told 9 = .ok (.iload_n 1, 1) := by decide +kernel
theorem dX11_told_10 : decode cX11_told 10 = .ok (.invokestatic 115, 3) := by decide +kernel
theorem dX11_told_13 : decode cX11_told 13 = .ok (.ifCond .eq 18, 3) := by decide +kernel
theorem dX11_told_16 : decode cX11_told 16 = .ok (.aload_n 0, 1) := by decide +kernel
theorem dX11_told_17 : decode cX11_told 17 = .ok (.getfield 97, 3) := by decide +kernel
theorem dX11_told_20 : decode cX11_told 20 = .ok (.iload_n 1, 1) := by decide +kernel
theorem dX11_told_21 : decode cX11_told 21 = .ok (.invokevirtual 119, 3) := by decide +kernel
theorem dX11_told_24 : decode cX11_told 24 = .ok (.iload_n 2, 1) := by decide +kernel
theorem dX11_told_25 : decode cX11_told 25 = .ok (.invokevirtual 141, 3) := by decide +kernel
theorem dX11_told_28 : decode cX11_told 28 = .ok (.goto 5, 3) := by decide +kernel
theorem dX11_told_31 : decode cX11_told 31 = .ok (.bipush (-100), 2) := by decide +kernel
theorem dX11_told_33 : decode cX11_told 33 = .ok (.ireturn, 1) := by decide +kernel
theorem dX11_told_34 : decode cX11_told 34 = .ok (.aload_n 0, 1) := by decide +kernel
theorem dX11_told_35 : decode cX11_told 35 = .ok (.iload_n 1, 1) := by decide +kernel
theorem dX11_told_36 : decode cX11_told 36 = .ok (.invokevirtual 129, 3) := by decide +kernel
theorem dX11_told_39 : decode cX11_told 39 = .ok (.astore_n 3, 1) := by decide +kernel
theorem dX11_told_40 : decode cX11_told 40 = .ok (.aload_n 3, 1) := by decide +kernel
theorem dX11_told_41 : decode cX11_told 41 = .ok (.ifnull 14, 3) := by decide +kernel
theorem dX11_told_44 : decode cX11_told 44 = .ok (.iload_n 2, 1) := by decide +kernel
theorem dX11_told_45 : decode cX11_told 45 = .ok (.iconst 4, 1) := by decide +kernel
theorem dX11_told_46 : decode cX11_told 46 = .ok (.if_icmp .lt 9, 3) := by decide +kernel
theorem dX11_told_49 : decode cX11_told 49 = .ok (.iload_n 2, 1) := by decide +kernel
theorem dX11_told_50 : decode cX11_told 50 = .ok (.bipush 6, 2) := by decide +kernel
theorem dX11_told_52 : decode cX11_told 52 = .ok (.if_icmp .le 6, 3) := by decide +kernel
theorem dX11_told_55 : decode cX11_told 55 = .ok (.bipush (-100), 2) := by decide +kernel
theorem dX11_told_57 : decode cX11_told 57 = .ok (.ireturn, 1) := by decide +kernel
theorem dX11_told_58 : decode cX11_told 58 = .ok (.iload_n 2, 1) := by decide +kernel
theorem dX11_told_59 : decode cX11_told 59 = .ok (.bipush 6, 2) := by decide +kernel
theorem dX11_told_61 : decode cX11_told 61 = .ok (.if_icmp .ne 10, 3) := by decide +kernel
theorem dX11_told_64 : decode cX11_told 64 = .ok (.aload_n 3, 1) := by decide +kernel
theorem dX11_told_65 : decode cX11_told 65 = .ok (.invokevirtual 145, 3) := by decide +kernel
theorem dX11_told_68 : decode cX11_told 68 = .ok (.goto 8, 3) := by decide +kernel
theorem dX11_told_71 : decode cX11_told 71 = .ok (.aload_n 3, 1) := by decide +kernel
theorem dX11_told_72 : decode cX11_told 72 = .ok (.iload_n 2, 1) := by decide +kernel
theorem dX11_told_73 : decode cX11_told 73 = .ok (.invokevirtual 149, 3) := by decide +kernel
theorem dX11_told_76 : decode cX11_told 76 = .ok (.ireturn, 1) := by decide +kernel
theorem dX11_shot_0 : decode cX11_shot 0 = .ok (.aload_n 0, 1) := by decide +kernel
theorem dX11_shot_1 : decode cX11_shot 1 = .ok (.iload_n 2, 1) := by decide +kernel
theorem dX11_shot_2 : decode cX11_shot 2 = .ok (.invokevirtual 129, 3) := by decide +kernel
theorem dX11_shot_5 : decode cX11_shot 5 = .ok (.astore 4, 2) := by decide +kernel
theorem dX11_shot_7 : decode cX11_shot 7 = .ok (.iload_n 1, 1) := by decide +kernel
theorem dX11_shot_8 : decode cX11_shot 8 = .ok (.invokestatic 115, 3) := by decide +kernel
theorem dX11_shot_11 : decode cX11_shot 11 = .ok (.ifCond .eq 8, 3) := by decide +kernel
theorem dX11_shot_14 : decode cX11_shot 14 = .ok (.aload 4, 2) := by decide +kernel
theorem dX11_shot_16 : decode cX11_shot 16 = .ok (.ifnonnull 6, 3) := by decide +kernel
theorem dX11_shot_19 : decode cX11_shot 19 = .ok (.bipush (-2), 2) := by decide +kernel
theorem dX11_shot_21 : decode cX11_shot 21 = .ok (.ireturn, 1) := by decide +kernel
theorem dX11_shot_22 : decode cX11_shot 22 = .ok (.aload_n 0, 1) := by decide +kernel
theorem dX11_shot_23 : decode cX11_shot 23 = .ok (.getfield 97, 3) := by decide +kernel
theorem dX11_shot_26 : decode cX11_shot 26 = .ok (.iload_n 1, 1) := by decide +kernel
theorem dX11_shot_27 : decode cX11_shot 27 = .ok (.invokevirtual 119, 3) := by decide +kernel
theorem dX11_shot_30 : decode cX11_shot 30 = .ok (.astore 5, 2) := by decide +kernel
theorem dX11_shot_32 : decode cX11_shot 32 = .ok (.aload_n 0, 1) := by decide +kernel
theorem dX11_shot_33 : decode cX11_shot 33 = .ok (.getfield 97, 3) := by decide +kernel
theorem dX11_shot_36 : decode cX11_shot 36 = .ok (.iconst 1, 1) := by decide +kernel
theorem dX11_shot_37 : decode cX11_shot 37 = .ok (.iload_n 1, 1) := by decide +kernel
theorem dX11_shot_38 : decode cX11_shot 38 = .ok (.isub, 1) := by decide +kernel
theorem dX11_shot_39 : decode cX11_shot 39 = .ok (.invokevirtual 119, 3) := by decide +kernel
theorem dX11_shot_42 : decode cX11_shot 42 = .ok (.astore 6, 2) := by decide +kernel
theorem dX11_shot_44 : decode cX11_shot 44 = .ok (.iload_n 3, 1) := by decide +kernel
theorem dX11_shot_45 : decode cX11_shot 45 = .ok (.tableswitch 101 0 4 #[35, 46, 58, 70, 76], 35) := by decide +kernel
theorem dX11_shot_80 : decode cX11_shot 80 = .ok (.aload 4, 2) := by decide +kernel
theorem dX11_shot_82 : decode cX11_shot 82 = .ok (.aload 5, 2) := by decide +kernel
theorem dX11_shot_84 : decode cX11_shot 84 = .ok (.getfield 150, 3) := by decide +kernel
theorem dX11_shot_87 : decode cX11_shot 87 = .ok (.invokevirtual 153, 3) := by decide +kernel
theorem dX11_shot_90 : decode cX11_shot 90 = .ok (.ireturn, 1) := by decide +kernel
theorem dX11_shot_91 : decode cX11_shot 91 = .ok (.aload_n 0, 1) := by decide +kernel
theorem dX11_shot_92 : decode cX11_shot 92 = .ok (.getfield 97, 3) := by decide +kernel
theorem dX11_shot_95 : decode cX11_shot 95 = .ok (.aload 5, 2) := by decide +kernel
theorem dX11_shot_97 : decode cX11_shot 97 = .ok (.aload 4, 2) := by decide +kernel
theorem dX11_shot_99 : decode cX11_shot 99 = .ok (.invokevirtual 156, 3) := by decide +kernel
theorem dX11_shot_102 : decode cX11_shot 102 = .ok (.ireturn, 1) := by decide +kernel
theorem dX11_shot_103 : decode cX11_shot 103 = .ok (.aload_n 0, 1) := by decide +kernel
theorem dX11_shot_104 : decode cX11_shot 104 = .ok (.getfield 97, 3) := by decide +kernel
theorem dX11_shot_107 : decode cX11_shot 107 = .ok (.aload 5, 2) := by decide +kernel
theorem dX11_shot_109 : decode cX11_shot 109 = .ok (.aload 4, 2) := by decide +kernel
theorem dX11_shot_111 : decode cX11_shot 111 = .ok (.invokevirtual 160, 3) := by decide +kernel
theorem dX11_shot_114 : decode cX11_shot 114 = .ok (.ireturn, 1) := by decide +kernel
theorem dX11_shot_115 : decode cX11_shot 115 = .ok (.aload 4, 2) := by decide +kernel
theorem dX11_shot_117 : decode cX11_shot 117 = .ok (.invokevirtual 163, 3) := by decide +kernel
theorem dX11_shot_120 : decode cX11_shot 120 = .ok (.ireturn, 1) := by decide +kernel
theorem dX11_shot_121 : decode cX11_shot 121 = .ok (.aload_n 0, 1) := by decide +kernel
theorem dX11_shot_122 : decode cX11_shot 122 = .ok (.getfield 97, 3) := by decide +kernel
theorem dX11_shot_125 : decode cX11_shot 125 = .ok (.aload 6, 2) := by decide +kernel
theorem dX11_shot_127 : decode cX11_shot 127 = .ok (.aload 6, 2) := by decide +kernel
theorem dX11_shot_129 : decode cX11_shot 129 = .ok (.getfield 150, 3) := by decide +kernel
theorem dX11_shot_132 : decode cX11_shot 132 = .ok (.aload 4, 2) := by decide +kernel
theorem dX11_shot_134 : decode cX11_shot 134 = .ok (.aload 5, 2) := by decide +kernel
theorem dX11_shot_136 : decode cX11_shot 136 = .ok (.getfield 150, 3) := by decide +kernel
theorem dX11_shot_139 : decode cX11_shot 139 = .ok (.invokevirtual 153, 3) := by decide +kernel
theorem dX11_shot_142 : decode cX11_shot 142 = .ok (.invokevirtual 166, 3) := by decide +kernel
theorem dX11_shot_145 : decode cX11_shot 145 = .ok (.ireturn, 1) := by decide +kernel
theorem dX11_shot_146 : decode cX11_shot 146 = .ok (.bipush (-2), 2) := by decide +kernel
theorem dX11_shot_148 : decode cX11_shot 148 = .ok (.ireturn, 1) := by decide +kernel
theorem dX11_needs_0 : decode cX11_needs 0 = .ok (.iload_n 1, 1) := by decide +kernel
theorem dX11_needs_1 : decode cX11_needs 1 = .ok (.invokestatic 115, 3) := by decide +kernel
theorem dX11_needs_4 : decode cX11_needs 4 = .ok (.ifCond .eq 7, 3) := by decide +kernel
theorem dX11_needs_7 : decode cX11_needs 7 = .ok (.iload_n 2, 1) := by decide +kernel
theorem dX11_needs_8 : decode cX11_needs 8 = .ok (.ifCond .ge 6, 3) := by decide +kernel
theorem dX11_needs_11 : decode cX11_needs 11 = .ok (.bipush (-2), 2) := by decide +kernel
theorem dX11_needs_13 : decode cX11_needs 13 = .ok (.ireturn, 1) := by decide +kernel
theorem dX11_needs_14 : decode cX11_needs 14 = .ok (.iload_n 2, 1) := by decide +kernel
theorem dX11_needs_15 : decode cX11_needs 15 = .ok (.bipush 100, 2) := by decide +kernel
theorem dX11_needs_17 : decode cX11_needs 17 = .ok (.idiv, 1) := by decide +kernel
theorem dX11_needs_18 : decode cX11_needs 18 = .ok (.istore_n 3, 1) := by decide +kernel
theorem dX11_needs_19 : decode cX11_needs 19 = .ok (.iload_n 2, 1) := by decide +kernel
theorem dX11_needs_20 : decode cX11_needs 20 = .ok (.bipush 100, 2) := by decide +kernel
theorem dX11_needs_22 : decode cX11_needs 22 = .ok (.irem, 1) := by decide +kernel
theorem dX11_needs_23 : decode cX11_needs 23 = .ok (.istore 4, 2) := by decide +kernel
theorem dX11_needs_25 : decode cX11_needs 25 = .ok (.iload_n 3, 1) := by decide +kernel
theorem dX11_needs_26 : decode cX11_needs 26 = .ok (.invokestatic 134, 3) := by decide +kernel
theorem dX11_needs_29 : decode cX11_needs 29 = .ok (.ifCond .eq 11, 3) := by decide +kernel
theorem dX11_needs_32 : decode cX11_needs 32 = .ok (.iload 4, 2) := by decide +kernel
theorem dX11_needs_34 : decode cX11_needs 34 = .ok (.invokestatic 134, 3) := by decide +kernel
theorem dX11_needs_37 : decode cX11_needs 37 = .ok (.ifCond .ne 6, 3) := by decide +kernel
theorem dX11_needs_40 : decode cX11_needs 40 = .ok (.bipush (-2), 2) := by decide +kernel
theorem dX11_needs_42 : decode cX11_needs 42 = .ok (.ireturn, 1) := by decide +kernel
theorem dX11_needs_43 : decode cX11_needs 43 = .ok (.aload_n 0, 1) := by decide +kernel
theorem dX11_needs_44 : decode cX11_needs 44 = .ok (.getfield 97, 3) := by decide +kernel
theorem dX11_needs_47 : decode cX11_needs 47 = .ok (.aload_n 0, 1) := by decide +kernel
theorem dX11_needs_48 : decode cX11_needs 48 = .ok (.getfield 97, 3) := by decide +kernel
theorem dX11_needs_51 : decode cX11_needs 51 = .ok (.iload_n 1, 1) := by decide +kernel
theorem dX11_needs_52 : decode cX11_needs 52 = .ok (.invokevirtual 119, 3) := by decide +kernel
theorem dX11_needs_55 : decode cX11_needs 55 = .ok (.iload_n 3, 1) := by decide +kernel
theorem dX11_needs_56 : decode cX11_needs 56 = .ok (.iload 4, 2) := by decide +kernel
theorem dX11_needs_58 : decode cX11_needs 58 = .ok (.invokevirtual 166, 3) := by decide +kernel
theorem dX11_needs_61 : decode cX11_needs 61 = .ok (.ireturn, 1) := by decide +kernel
theorem dX11_feed_0 : decode cX11_feed 0 = .ok (.iload_n 1, 1) := by decide +kernel
theorem dX11_feed_1 : decode cX11_feed 1 = .ok (.ifCond .lt 10, 3) := by decide +kernel
theorem dX11_feed_4 : decode cX11_feed 4 = .ok (.iload_n 1, 1) := by decide +kernel
theorem dX11_feed_5 : decode cX11_feed 5 = .ok (.sipush 255, 3) := by decide +kernel
theorem dX11_feed_8 : decode cX11_feed 8 = .ok (.if_icmp .le 6, 3) := by decide +kernel
theorem dX11_feed_11 : decode cX11_feed 11 = .ok (.bipush (-2), 2) := by decide +kernel
theorem dX11_feed_13 : decode cX11_feed 13 = .ok (.ireturn, 1) := by decide +kernel
theorem dX11_feed_14 : decode cX11_feed 14 = .ok (.aload_n 0, 1) := by decide +kernel
theorem dX11_feed_15 : decode cX11_feed 15 = .ok (.getfield 18, 3) := by decide +kernel
theorem dX11_feed_18 : decode cX11_feed 18 = .ok (.iload_n 1, 1) := by decide +kernel
theorem dX11_feed_19 : decode cX11_feed 19 = .ok (.invokevirtual 170, 3) := by decide +kernel
theorem dX11_feed_22 : decode cX11_feed 22 = .ok (.ifCond .eq 13, 3) := by decide +kernel
theorem dX11_feed_25 : decode cX11_feed 25 = .ok (.aload_n 0, 1) := by decide +kernel
theorem dX11_feed_26 : decode cX11_feed 26 = .ok (.getfield 18, 3) := by decide +kernel
theorem dX11_feed_29 : decode cX11_feed 29 = .ok (.getfield 91, 3) := by decide +kernel
theorem dX11_feed_32 : decode cX11_feed 32 = .ok (.goto 5, 3) := by decide +kernel
theorem dX11_feed_35 : decode cX11_feed 35 = .ok (.bipush (-4), 2) := by decide +kernel
theorem dX11_feed_37 : decode cX11_feed 37 = .ok (.ireturn, 1) := by decide +kernel
theorem dX11_text_0 : decode cX11_text 0 = .ok (.aload_n 0, 1) := by decide +kernel
theorem dX11_text_1 : decode cX11_text 1 = .ok (.getfield 22, 3) := by decide +kernel
theorem dX11_text_4 : decode cX11_text 4 = .ok (.bipush 6, 2) := by decide +kernel
theorem dX11_text_6 : decode cX11_text 6 = .ok (.if_icmp .lt 6, 3) := by decide +kernel
theorem dX11_text_9 : decode cX11_text 9 = .ok (.bipush (-4), 2) := by decide +kernel
theorem dX11_text_11 : decode cX11_text 11 = .ok (.ireturn, 1) := by decide +kernel
theorem dX11_text_12 : decode cX11_text 12 = .ok (.aload_n 0, 1) := by decide +kernel
theorem dX11_text_13 : decode cX11_text 13 = .ok (.getfield 18, 3) := by decide +kernel
theorem dX11_text_16 : decode cX11_text 16 = .ok (.aload_n 0, 1) := by decide +kernel
theorem dX11_text_17 : decode cX11_text 17 = .ok (.getfield 11, 3) := by decide +kernel
theorem dX11_text_20 : decode cX11_text 20 = .ok (.aload_n 0, 1) := by decide +kernel
theorem dX11_text_21 : decode cX11_text 21 = .ok (.getfield 22, 3) := by decide +kernel
theorem dX11_text_24 : decode cX11_text 24 = .ok (.aaload, 1) := by decide +kernel
theorem dX11_text_25 : decode cX11_text 25 = .ok (.invokevirtual 87, 3) := by decide +kernel
theorem dX11_text_28 : decode cX11_text 28 = .ok (.istore_n 1, 1) := by decide +kernel
theorem dX11_text_29 : decode cX11_text 29 = .ok (.aload_n 0, 1) := by decide +kernel
theorem dX11_text_30 : decode cX11_text 30 = .ok (.getfield 18, 3) := by decide +kernel
theorem dX11_text_33 : decode cX11_text 33 = .ok (.iconst 0, 1) := by decide +kernel
theorem dX11_text_34 : decode cX11_text 34 = .ok (.putfield 91, 3) := by decide +kernel
theorem dX11_text_37 : decode cX11_text 37 = .ok (.iload_n 1, 1) := by decide +kernel
theorem dX11_text_38 : decode cX11_text 38 = .ok (.iconst (-1), 1) := by decide +kernel
theorem dX11_text_39 : decode cX11_text 39 = .ok (.if_icmp .eq 8, 3) := by decide +kernel
theorem dX11_text_42 : decode cX11_text 42 = .ok (.bipush (-100), 2) := by decide +kernel
theorem dX11_text_44 : decode cX11_text 44 = .ok (.iload_n 1, 1) := by decide +kernel
theorem dX11_text_45 : decode cX11_text 45 = .ok (.isub, 1) := by decide +kernel
theorem dX11_text_46 : decode cX11_text 46 = .ok (.ireturn, 1) := by decide +kernel
theorem dX11_text_47 : decode cX11_text 47 = .ok (.aload_n 0, 1) := by decide +kernel
theorem dX11_text_48 : decode cX11_text 48 = .ok (.dup, 1) := by decide +kernel
theorem dX11_text_49 : decode cX11_text 49 = .ok (.getfield 22, 3) := by decide +kernel
theorem dX11_text_52 : decode cX11_text 52 = .ok (.iconst 1, 1) := by decide +kernel
theorem dX11_text_53 : decode cX11_text 53 = .ok (.iadd, 1) := by decide +kernel
theorem dX11_text_54 : decode cX11_text 54 = .ok (.putfield 22, 3) := by decide +kernel
theorem dX11_text_57 : decode cX11_text 57 = .ok (.aload_n 0, 1) := by decide +kernel
theorem dX11_text_58 : decode cX11_text 58 = .ok (.getfield 22, 3) := by decide +kernel
theorem dX11_text_61 : decode cX11_text 61 = .ok (.iconst 1, 1) := by decide +kernel
theorem dX11_text_62 : decode cX11_text 62 = .ok (.isub, 1) := by decide +kernel
theorem dX11_text_63 : decode cX11_text 63 = .ok (.ireturn, 1) := by decide +kernel
theorem dX11_force_0 : decode cX11_force 0 = .ok (.iload_n 1, 1) := by decide +kernel
theorem dX11_force_1 : decode cX11_force 1 = .ok (.ifCond .lt 11, 3) := by decide +kernel
theorem dX11_force_4 : decode cX11_force 4 = .ok (.iload_n 1, 1) := by decide +kernel
theorem dX11_force_5 : decode cX11_force 5 = .ok (.aload_n 0, 1) := by decide +kernel
theorem dX11_force_6 : decode cX11_force 6 = .ok (.getfield 22, 3) := by decide +kernel
theorem dX11_force_9 : decode cX11_force 9 = .ok (.if_icmp .lt 6, 3) := by decide +kernel
theorem dX11_force_12 : decode cX11_force 12 = .ok (.bipush (-2), 2) := by decide +kernel
theorem dX11_force_14 : decode cX11_force 14 = .ok (.ireturn, 1) := by decide +kernel
theorem dX11_force_15 : decode cX11_force 15 = .ok (.aload_n 0, 1) := by decide +kernel
theorem dX11_force_16 : decode cX11_force 16 = .ok (.getfield 97, 3) := by decide +kernel
theorem dX11_force_19 : decode cX11_force 19 = .ok (.getfield 173, 3) := by decide +kernel
theorem dX11_force_22 : decode cX11_force 22 = .ok (.getfield 177, 3) := by decide +kernel
theorem dX11_force_25 : decode cX11_force 25 = .ok (.istore_n 2, 1) := by decide +kernel
theorem dX11_force_26 : decode cX11_force 26 = .ok (.aload_n 0, 1) := by decide +kernel
theorem dX11_force_27 : decode cX11_force 27 = .ok (.getfield 97, 3) := by decide +kernel
theorem dX11_force_30 : decode cX11_force 30 = .ok (.aload_n 0, 1) := by decide +kernel
theorem dX11_force_31 : decode cX11_force 31 = .ok (.getfield 11, 3) := by decide +kernel
theorem dX11_force_34 : decode cX11_force 34 = .ok (.iload_n 1, 1) := by decide +kernel
theorem dX11_force_35 : decode cX11_force 35 = .ok (.aaload, 1) := by decide +kernel
theorem dX11_force_36 : decode cX11_force 36 = .ok (.putfield 173, 3) := by decide +kernel
theorem dX11_force_39 : decode cX11_force 39 = .ok (.iload_n 2, 1) := by decide +kernel
theorem dX11_force_40 : decode cX11_force 40 = .ok (.ireturn, 1) := by decide +kernel
theorem dX11_rally_0 : decode cX11_rally 0 = .ok (.iload_n 2, 1) := by decide +kernel
theorem dX11_rally_1 : decode cX11_rally 1 = .ok (.ifCond .lt 9, 3) := by decide +kernel
theorem dX11_rally_4 : decode cX11_rally 4 = .ok (.iload_n 2, 1) := by decide +kernel
theorem dX11_rally_5 : decode cX11_rally 5 = .ok (.bipush 6, 2) := by decide +kernel
theorem dX11_rally_7 : decode cX11_rally 7 = .ok (.if_icmp .le 6, 3) := by decide +kernel
theorem dX11_rally_10 : decode cX11_rally 10 = .ok (.bipush (-2), 2) := by decide +kernel
theorem dX11_rally_12 : decode cX11_rally 12 = .ok (.ireturn, 1) := by decide +kernel
theorem dX11_rally_13 : decode cX11_rally 13 = .ok (.aload_n 0, 1) := by decide +kernel
theorem dX11_rally_14 : decode cX11_rally 14 = .ok (.iload_n 1, 1) := by decide +kernel
theorem dX11_rally_15 : decode cX11_rally 15 = .ok (.invokevirtual 180, 3) := by decide +kernel
theorem dX11_rally_18 : decode cX11_rally 18 = .ok (.istore_n 3, 1) := by decide +kernel
theorem dX11_rally_19 : decode cX11_rally 19 = .ok (.iload_n 3, 1) := by decide +kernel
theorem dX11_rally_20 : decode cX11_rally 20 = .ok (.ifCond .eq 5, 3) := by decide +kernel
theorem dX11_rally_23 : decode cX11_rally 23 = .ok (.iload_n 3, 1) := by decide +kernel
end
section
theorem dX11_rally_24 : decode cX11_rally 24 = .ok (.ireturn, 1) := by decide +kernel
theorem dX11_rally_25 : decode cX11_rally 25 = .ok (.aload_n 0, 1) := by decide +kernel
theorem dX11_rally_26 : decode cX11_rally 26 = .ok (.iload_n 1, 1) := by decide +kernel
theorem dX11_rally_27 : decode cX11_rally 27 = .ok (.invokevirtual 183, 3) := by decide +kernel
theorem dX11_rally_30 : decode cX11_rally 30 = .ok (.istore 4, 2) := by decide +kernel
theorem dX11_rally_32 : decode cX11_rally 32 = .ok (.iload_n 2, 1) := by decide +kernel
theorem dX11_rally_33 : decode cX11_rally 33 = .ok (.tableswitch 91 0 5 #[39, 42, 47, 58, 69, 80], 39) := by decide +kernel
theorem dX11_rally_72 : decode cX11_rally 72 = .ok (.iload 4, 2) := by decide +kernel
theorem dX11_rally_74 : decode cX11_rally 74 = .ok (.ireturn, 1) := by decide +kernel
theorem dX11_rally_75 : decode cX11_rally 75 = .ok (.aload_n 0, 1) := by decide +kernel
theorem dX11_rally_76 : decode cX11_rally 76 = .ok (.getfield 60, 3) := by decide +kernel
theorem dX11_rally_79 : decode cX11_rally 79 = .ok (.ireturn, 1) := by decide +kernel
theorem dX11_rally_80 : decode cX11_rally 80 = .ok (.aload_n 0, 1) := by decide +kernel
theorem dX11_rally_81 : decode cX11_rally 81 = .ok (.getfield 101, 3) := by decide +kernel
theorem dX11_rally_84 : decode cX11_rally 84 = .ok (.getfield 186, 3) := by decide +kernel
theorem dX11_rally_87 : decode cX11_rally 87 = .ok (.getfield 190, 3) := by decide +kernel
theorem dX11_rally_90 : decode cX11_rally 90 = .ok (.ireturn, 1) := by decide +kernel
theorem dX11_rally_91 : decode cX11_rally 91 = .ok (.aload_n 0, 1) := by decide +kernel
theorem dX11_rally_92 : decode cX11_rally 92 = .ok (.getfield 101, 3) := by decide +kernel
theorem dX11_rally_95 : decode cX11_rally 95 = .ok (.getfield 193, 3) := by decide +kernel
theorem dX11_rally_98 : decode cX11_rally 98 = .ok (.getfield 190, 3) := by decide +kernel
theorem dX11_rally_101 : decode cX11_rally 101 = .ok (.ireturn, 1) := by decide +kernel
theorem dX11_rally_102 : decode cX11_rally 102 = .ok (.aload_n 0, 1) := by decide +kernel
theorem dX11_rally_103 : decode cX11_rally 103 = .ok (.getfield 101, 3) := by decide +kernel
theorem dX11_rally_106 : decode cX11_rally 106 = .ok (.getfield 186, 3) := by decide +kernel
theorem dX11_rally_109 : decode cX11_rally 109 = .ok (.getfield 150, 3) := by decide +kernel
theorem dX11_rally_112 : decode cX11_rally 112 = .ok (.ireturn, 1) := by decide +kernel
theorem dX11_rally_113 : decode cX11_rally 113 = .ok (.aload_n 0, 1) := by decide +kernel
theorem dX11_rally_114 : decode cX11_rally 114 = .ok (.getfield 101, 3) := by decide +kernel
theorem dX11_rally_117 : decode cX11_rally 117 = .ok (.getfield 193, 3) := by decide +kernel
theorem dX11_rally_120 : decode cX11_rally 120 = .ok (.getfield 150, 3) := by decide +kernel
theorem dX11_rally_123 : decode cX11_rally 123 = .ok (.ireturn, 1) := by decide +kernel
theorem dX11_rally_124 : decode cX11_rally 124 = .ok (.aload_n 0, 1) := by decide +kernel
theorem dX11_rally_125 : decode cX11_rally 125 = .ok (.getfield 101, 3) := by decide +kernel
theorem dX11_rally_128 : decode cX11_rally 128 = .ok (.getfield 112, 3) := by decide +kernel
theorem dX11_rally_131 : decode cX11_rally 131 = .ok (.ireturn, 1) := by decide +kernel
theorem dX11_play_0 : decode cX11_play 0 = .ok (.aload_n 0, 1) := by decide +kernel
theorem dX11_play_1 : decode cX11_play 1 = .ok (.iload_n 1, 1) := by decide +kernel
theorem dX11_play_2 : decode cX11_play 2 = .ok (.invokevirtual 180, 3) := by decide +kernel
theorem dX11_play_5 : decode cX11_play 5 = .ok (.istore_n 2, 1) := by decide +kernel
theorem dX11_play_6 : decode cX11_play 6 = .ok (.iload_n 2, 1) := by decide +kernel
theorem dX11_play_7 : decode cX11_play 7 = .ok (.ifCond .eq 7, 3) := by decide +kernel
theorem dX11_play_10 : decode cX11_play 10 = .ok (.iload_n 2, 1) := by decide +kernel
theorem dX11_play_11 : decode cX11_play 11 = .ok (.goto 16, 3) := by decide +kernel
theorem dX11_play_14 : decode cX11_play 14 = .ok (.aload_n 0, 1) := by decide +kernel
theorem dX11_play_15 : decode cX11_play 15 = .ok (.aload_n 0, 1) := by decide +kernel
theorem dX11_play_16 : decode cX11_play 16 = .ok (.getfield 97, 3) := by decide +kernel
theorem dX11_play_19 : decode cX11_play 19 = .ok (.aload_n 0, 1) := by decide +kernel
theorem dX11_play_20 : decode cX11_play 20 = .ok (.iload_n 1, 1) := by decide +kernel
theorem dX11_play_21 : decode cX11_play 21 = .ok (.invokevirtual 196, 3) := by decide +kernel
theorem dX11_play_24 : decode cX11_play 24 = .ok (.invokevirtual 200, 3) := by decide +kernel
theorem dX11_play_27 : decode cX11_play 27 = .ok (.ireturn, 1) := by decide +kernel
theorem dX11_likely_0 : decode cX11_likely 0 = .ok (.aload_n 0, 1) := by decide +kernel
theorem dX11_likely_1 : decode cX11_likely 1 = .ok (.iload_n 1, 1) := by decide +kernel
theorem dX11_likely_2 : decode cX11_likely 2 = .ok (.invokevirtual 180, 3) := by decide +kernel
theorem dX11_likely_5 : decode cX11_likely 5 = .ok (.ifCond .eq 7, 3) := by decide +kernel
theorem dX11_likely_8 : decode cX11_likely 8 = .ok (.ldc2_w 204, 3) := by decide +kernel
theorem dX11_likely_11 : decode cX11_likely 11 = .ok (.lreturn, 1) := by decide +kernel
theorem dX11_likely_12 : decode cX11_likely 12 = .ok (.aload_n 0, 1) := by decide +kernel
theorem dX11_likely_13 : decode cX11_likely 13 = .ok (.iload_n 1, 1) := by decide +kernel
theorem dX11_likely_14 : decode cX11_likely 14 = .ok (.invokevirtual 183, 3) := by decide +kernel
theorem dX11_likely_17 : decode cX11_likely 17 = .ok (.pop, 1) := by decide +kernel
theorem dX11_likely_18 : decode cX11_likely 18 = .ok (.aload_n 0, 1) := by decide +kernel
theorem dX11_likely_19 : decode cX11_likely 19 = .ok (.getfield 65, 3) := by decide +kernel
theorem dX11_likely_22 : decode cX11_likely 22 = .ok (.lreturn, 1) := by decide +kernel
theorem dX11_best_0 : decode cX11_best 0 = .ok (.iload_n 1, 1) := by decide +kernel
theorem dX11_best_1 : decode cX11_best 1 = .ok (.invokestatic 115, 3) := by decide +kernel
theorem dX11_best_4 : decode cX11_best 4 = .ok (.ifCond .eq 21, 3) := by decide +kernel
theorem dX11_best_7 : decode cX11_best 7 = .ok (.iload_n 2, 1) := by decide +kernel
theorem dX11_best_8 : decode cX11_best 8 = .ok (.ifCond .lt 17, 3) := by decide +kernel
theorem dX11_best_11 : decode cX11_best 11 = .ok (.iload_n 2, 1) := by decide +kernel
theorem dX11_best_12 : decode cX11_best 12 = .ok (.iconst 5, 1) := by decide +kernel
theorem dX11_best_13 : decode cX11_best 13 = .ok (.if_icmp .gt 12, 3) := by decide +kernel
theorem dX11_best_16 : decode cX11_best 16 = .ok (.iload_n 3, 1) := by decide +kernel
theorem dX11_best_17 : decode cX11_best 17 = .ok (.ifCond .lt 8, 3) := by decide +kernel
theorem dX11_best_20 : decode cX11_best 20 = .ok (.iload_n 3, 1) := by decide +kernel
theorem dX11_best_21 : decode cX11_best 21 = .ok (.iconst 1, 1) := by decide +kernel
theorem dX11_best_22 : decode cX11_best 22 = .ok (.if_icmp .le 6, 3) := by decide +kernel
theorem dX11_best_25 : decode cX11_best 25 = .ok (.bipush (-100), 2) := by decide +kernel
theorem dX11_best_27 : decode cX11_best 27 = .ok (.ireturn, 1) := by decide +kernel
theorem dX11_best_28 : decode cX11_best 28 = .ok (.aload_n 0, 1) := by decide +kernel
theorem dX11_best_29 : decode cX11_best 29 = .ok (.aload_n 0, 1) := by decide +kernel
theorem dX11_best_30 : decode cX11_best 30 = .ok (.getfield 97, 3) := by decide +kernel
theorem dX11_best_33 : decode cX11_best 33 = .ok (.iload_n 1, 1) := by decide +kernel
theorem dX11_best_34 : decode cX11_best 34 = .ok (.iload_n 2, 1) := by decide +kernel
theorem dX11_best_35 : decode cX11_best 35 = .ok (.iconst 1, 1) := by decide +kernel
theorem dX11_best_36 : decode cX11_best 36 = .ok (.invokevirtual 206, 3) := by decide +kernel
theorem dX11_best_39 : decode cX11_best 39 = .ok (.istore 4, 2) := by decide +kernel
theorem dX11_best_41 : decode cX11_best 41 = .ok (.iload_n 3, 1) := by decide +kernel
theorem dX11_best_42 : decode cX11_best 42 = .ok (.ifCond .ne 8, 3) := by decide +kernel
theorem dX11_best_45 : decode cX11_best 45 = .ok (.iload 4, 2) := by decide +kernel
theorem dX11_best_47 : decode cX11_best 47 = .ok (.goto 7, 3) := by decide +kernel
theorem dX11_best_50 : decode cX11_best 50 = .ok (.aload_n 0, 1) := by decide +kernel
theorem dX11_best_51 : decode cX11_best 51 = .ok (.getfield 72, 3) := by decide +kernel
theorem dX11_best_54 : decode cX11_best 54 = .ok (.ireturn, 1) := by decide +kernel
theorem dX11_sure_0 : decode cX11_sure 0 = .ok (.iload_n 1, 1) := by decide +kernel
theorem dX11_sure_1 : decode cX11_sure 1 = .ok (.invokestatic 115, 3) := by decide +kernel
theorem dX11_sure_4 : decode cX11_sure 4 = .ok (.ifCond .ne 6, 3) := by decide +kernel
theorem dX11_sure_7 : decode cX11_sure 7 = .ok (.bipush (-2), 2) := by decide +kernel
theorem dX11_sure_9 : decode cX11_sure 9 = .ok (.ireturn, 1) := by decide +kernel
theorem dX11_sure_10 : decode cX11_sure 10 = .ok (.iconst 1, 1) := by decide +kernel
theorem dX11_sure_11 : decode cX11_sure 11 = .ok (.istore_n 2, 1) := by decide +kernel
theorem dX11_sure_12 : decode cX11_sure 12 = .ok (.iload_n 2, 1) := by decide +kernel
theorem dX11_sure_13 : decode cX11_sure 13 = .ok (.iconst 5, 1) := by decide +kernel
theorem dX11_sure_14 : decode cX11_sure 14 = .ok (.if_icmp .gt 26, 3) := by decide +kernel
theorem dX11_sure_17 : decode cX11_sure 17 = .ok (.aload_n 0, 1) := by decide +kernel
theorem dX11_sure_18 : decode cX11_sure 18 = .ok (.aload_n 0, 1) := by decide +kernel
theorem dX11_sure_19 : decode cX11_sure 19 = .ok (.getfield 97, 3) := by decide +kernel
theorem dX11_sure_22 : decode cX11_sure 22 = .ok (.iload_n 1, 1) := by decide +kernel
theorem dX11_sure_23 : decode cX11_sure 23 = .ok (.iload_n 2, 1) := by decide +kernel
theorem dX11_sure_24 : decode cX11_sure 24 = .ok (.iconst 1, 1) := by decide +kernel
theorem dX11_sure_25 : decode cX11_sure 25 = .ok (.invokevirtual 206, 3) := by decide +kernel
theorem dX11_sure_28 : decode cX11_sure 28 = .ok (.iconst 1, 1) := by decide +kernel
theorem dX11_sure_29 : decode cX11_sure 29 = .ok (.if_icmp .ne 5, 3) := by decide +kernel
theorem dX11_sure_32 : decode cX11_sure 32 = .ok (.iload_n 2, 1) := by decide +kernel
theorem dX11_sure_33 : decode cX11_sure 33 = .ok (.ireturn, 1) := by decide +kernel
theorem dX11_sure_34 : decode cX11_sure 34 = .ok (.iinc 2 2, 3) := by decide +kernel
theorem dX11_sure_37 : decode cX11_sure 37 = .ok (.goto (-25), 3) := by decide +kernel
theorem dX11_sure_40 : decode cX11_sure 40 = .ok (.iconst (-1), 1) := by decide +kernel
theorem dX11_sure_41 : decode cX11_sure 41 = .ok (.ireturn, 1) := by decide +kernel
theorem dX11_stand_0 : decode cX11_stand 0 = .ok (.iload_n 1, 1) := by decide +kernel
theorem dX11_stand_1 : decode cX11_stand 1 = .ok (.invokestatic 115, 3) := by decide +kernel
theorem dX11_stand_4 : decode cX11_stand 4 = .ok (.ifCond .eq 12, 3) := by decide +kernel
theorem dX11_stand_7 : decode cX11_stand 7 = .ok (.iload_n 2, 1) := by decide +kernel
theorem dX11_stand_8 : decode cX11_stand 8 = .ok (.ifCond .lt 8, 3) := by decide +kernel
theorem dX11_stand_11 : decode cX11_stand 11 = .ok (.iload_n 2, 1) := by decide +kernel
theorem dX11_stand_12 : decode cX11_stand 12 = .ok (.iconst 1, 1) := by decide +kernel
theorem dX11_stand_13 : decode cX11_stand 13 = .ok (.if_icmp .le 6, 3) := by decide +kernel
theorem dX11_stand_16 : decode cX11_stand 16 = .ok (.ldc 210, 2) := by decide +kernel
theorem dX11_stand_18 : decode cX11_stand 18 = .ok (.ireturn, 1) := by decide +kernel
theorem dX11_stand_19 : decode cX11_stand 19 = .ok (.iconst 0, 1) := by decide +kernel
theorem dX11_stand_20 : decode cX11_stand 20 = .ok (.istore_n 3, 1) := by decide +kernel
theorem dX11_stand_21 : decode cX11_stand 21 = .ok (.aload_n 0, 1) := by decide +kernel
theorem dX11_stand_22 : decode cX11_stand 22 = .ok (.iload_n 1, 1) := by decide +kernel
theorem dX11_stand_23 : decode cX11_stand 23 = .ok (.iconst 0, 1) := by decide +kernel
theorem dX11_stand_24 : decode cX11_stand 24 = .ok (.invokevirtual 211, 3) := by decide +kernel
theorem dX11_stand_27 : decode cX11_stand 27 = .ok (.istore 4, 2) := by decide +kernel
theorem dX11_stand_29 : decode cX11_stand 29 = .ok (.iconst 1, 1) := by decide +kernel
theorem dX11_stand_30 : decode cX11_stand 30 = .ok (.istore 5, 2) := by decide +kernel
theorem dX11_stand_32 : decode cX11_stand 32 = .ok (.iload 5, 2) := by decide +kernel
theorem dX11_stand_34 : decode cX11_stand 34 = .ok (.bipush 25, 2) := by decide +kernel
theorem dX11_stand_36 : decode cX11_stand 36 = .ok (.if_icmp .ge 32, 3) := by decide +kernel
theorem dX11_stand_39 : decode cX11_stand 39 = .ok (.aload_n 0, 1) := by decide +kernel
theorem dX11_stand_40 : decode cX11_stand 40 = .ok (.iload_n 1, 1) := by decide +kernel
theorem dX11_stand_41 : decode cX11_stand 41 = .ok (.iload 5, 2) := by decide +kernel
theorem dX11_stand_43 : decode cX11_stand 43 = .ok (.invokevirtual 211, 3) := by decide +kernel
theorem dX11_stand_46 : decode cX11_stand 46 = .ok (.istore 6, 2) := by decide +kernel
theorem dX11_stand_48 : decode cX11_stand 48 = .ok (.iload 6, 2) := by decide +kernel
theorem dX11_stand_50 : decode cX11_stand 50 = .ok (.iload 4, 2) := by decide +kernel
theorem dX11_stand_52 : decode cX11_stand 52 = .ok (.if_icmp .ge 10, 3) := by decide +kernel
theorem dX11_stand_55 : decode cX11_stand 55 = .ok (.iload 6, 2) := by decide +kernel
theorem dX11_stand_57 : decode cX11_stand 57 = .ok (.istore 4, 2) := by decide +kernel
theorem dX11_stand_59 : decode cX11_stand 59 = .ok (.iload 5, 2) := by decide +kernel
theorem dX11_stand_61 : decode cX11_stand 61 = .ok (.istore_n 3, 1) := by decide +kernel
theorem dX11_stand_62 : decode cX11_stand 62 = .ok (.iinc 5 1, 3) := by decide +kernel
theorem dX11_stand_65 : decode cX11_stand 65 = .ok (.goto (-33), 3) := by decide +kernel
theorem dX11_stand_68 : decode cX11_stand 68 = .ok (.iload_n 2, 1) := by decide +kernel
theorem dX11_stand_69 : decode cX11_stand 69 = .ok (.ifCond .ne 7, 3) := by decide +kernel
theorem dX11_stand_72 : decode cX11_stand 72 = .ok (.iload_n 3, 1) := by decide +kernel
theorem dX11_stand_73 : decode cX11_stand 73 = .ok (.goto 5, 3) := by decide +kernel
theorem dX11_stand_76 : decode cX11_stand 76 = .ok (.iload 4, 2) := by decide +kernel
theorem dX11_stand_78 : decode cX11_stand 78 = .ok (.ireturn, 1) := by decide +kernel
theorem dX11_tires_0 : decode cX11_tires 0 = .ok (.iload_n 1, 1) := by decide +kernel
theorem dX11_tires_1 : decode cX11_tires 1 = .ok (.invokestatic 115, 3) := by decide +kernel
theorem dX11_tires_4 : decode cX11_tires 4 = .ok (.ifCond .ne 6, 3) := by decide +kernel
theorem dX11_tires_7 : decode cX11_tires 7 = .ok (.bipush (-2), 2) := by decide +kernel
theorem dX11_tires_9 : decode cX11_tires 9 = .ok (.ireturn, 1) := by decide +kernel
theorem dX11_tires_10 : decode cX11_tires 10 = .ok (.aload_n 0, 1) := by decide +kernel
theorem dX11_tires_11 : decode cX11_tires 11 = .ok (.getfield 97, 3) := by decide +kernel
theorem dX11_tires_14 : decode cX11_tires 14 = .ok (.iload_n 1, 1) := by decide +kernel
theorem dX11_tires_15 : decode cX11_tires 15 = .ok (.invokevirtual 119, 3) := by decide +kernel
theorem dX11_tires_18 : decode cX11_tires 18 = .ok (.astore_n 2, 1) := by decide +kernel
theorem dX11_tires_19 : decode cX11_tires 19 = .ok (.aload_n 0, 1) := by decide +kernel
theorem dX11_tires_20 : decode cX11_tires 20 = .ok (.getfield 97, 3) := by decide +kernel
theorem dX11_tires_23 : decode cX11_tires 23 = .ok (.iconst 1, 1) := by decide +kernel
theorem dX11_tires_24 : decode cX11_tires 24 = .ok (.iload_n 1, 1) := by decide +kernel
theorem dX11_tires_25 : decode cX11_tires 25 = .ok (.isub, 1) := by decide +kernel
theorem dX11_tires_26 : decode cX11_tires 26 = .ok (.invokevirtual 119, 3) := by decide +kernel
theorem dX11_tires_29 : decode cX11_tires 29 = .ok (.astore_n 3, 1) := by decide +kernel
theorem dX11_tires_30 : decode cX11_tires 30 = .ok (.iconst (-1), 1) := by decide +kernel
theorem dX11_tires_31 : decode cX11_tires 31 = .ok (.istore 4, 2) := by decide +kernel
theorem dX11_tires_33 : decode cX11_tires 33 = .ok (.iconst (-1), 1) := by decide +kernel
theorem dX11_tires_34 : decode cX11_tires 34 = .ok (.istore 5, 2) := by decide +kernel
theorem dX11_tires_36 : decode cX11_tires 36 = .ok (.iconst 0, 1) := by decide +kernel
theorem dX11_tires_37 : decode cX11_tires 37 = .ok (.istore 6, 2) := by decide +kernel
theorem dX11_tires_39 : decode cX11_tires 39 = .ok (.iload 6, 2) := by decide +kernel
theorem dX11_tires_41 : decode cX11_tires 41 = .ok (.aload_n 0, 1) := by decide +kernel
theorem dX11_tires_42 : decode cX11_tires 42 = .ok (.getfield 32, 3) := by decide +kernel
theorem dX11_tires_45 : decode cX11_tires 45 = .ok (.if_icmp .ge 72, 3) := by decide +kernel
theorem dX11_tires_48 : decode cX11_tires 48 = .ok (.aload_n 0, 1) := by decide +kernel
theorem dX11_tires_49 : decode cX11_tires 49 = .ok (.iload 6, 2) := by decide +kernel
theorem dX11_tires_51 : decode cX11_tires 51 = .ok (.invokevirtual 129, 3) := by decide +kernel
theorem dX11_tires_54 : decode cX11_tires 54 = .ok (.astore 7, 2) := by decide +kernel
theorem dX11_tires_56 : decode cX11_tires 56 = .ok (.aload 7, 2) := by decide +kernel
theorem dX11_tires_58 : decode cX11_tires 58 = .ok (.ifnonnull 7, 3) := by decide +kernel
theorem dX11_tires_61 : decode cX11_tires 61 = .ok (.iconst (-1), 1) := by decide +kernel
theorem dX11_tires_62 : decode cX11_tires 62 = .ok (.goto 19, 3) := by decide +kernel
theorem dX11_tires_65 : decode cX11_tires 65 = .ok (.aload_n 3, 1) := by decide +kernel
theorem dX11_tires_66 : decode cX11_tires 66 = .ok (.getfield 150, 3) := by decide +kernel
theorem dX11_tires_69 : decode cX11_tires 69 = .ok (.aload 7, 2) := by decide +kernel
theorem dX11_tires_71 : decode cX11_tires 71 = .ok (.aload_n 2, 1) := by decide +kernel
theorem dX11_tires_72 : decode cX11_tires 72 = .ok (.getfield 150, 3) := by decide +kernel
theorem dX11_tires_75 : decode cX11_tires 75 = .ok (.invokevirtual 153, 3) := by decide +kernel
theorem dX11_tires_78 : decode cX11_tires 78 = .ok (.invokestatic 214, 3) := by decide +kernel
theorem dX11_tires_81 : decode cX11_tires 81 = .ok (.istore 8, 2) := by decide +kernel
theorem dX11_tires_83 : decode cX11_tires 83 = .ok (.iload 8, 2) := by decide +kernel
theorem dX11_tires_85 : decode cX11_tires 85 = .ok (.iload 4, 2) := by decide +kernel
theorem dX11_tires_87 : decode cX11_tires 87 = .ok (.if_icmp .le 24, 3) := by decide +kernel
theorem dX11_tires_90 : decode cX11_tires 90 = .ok (.aload_n 0, 1) := by decide +kernel
theorem dX11_tires_91 : decode cX11_tires 91 = .ok (.getfield 97, 3) := by decide +kernel
theorem dX11_tires_94 : decode cX11_tires 94 = .ok (.iload_n 1, 1) := by decide +kernel
theorem dX11_tires_95 : decode cX11_tires 95 = .ok (.aload 7, 2) := by decide +kernel
theorem dX11_tires_97 : decode cX11_tires 97 = .ok (.invokevirtual 217, 3) := by decide +kernel
theorem dX11_tires_100 : decode cX11_tires 100 = .ok (.ifCond .ne 11, 3) := by decide +kernel
theorem dX11_tires_103 : decode cX11_tires 103 = .ok (.iload 8, 2) := by decide +kernel
theorem dX11_tires_105 : decode cX11_tires 105 = .ok (.istore 4, 2) := by decide +kernel
theorem dX11_tires_107 : decode cX11_tires 107 = .ok (.iload 6, 2) := by decide +kernel
theorem dX11_tires_109 : decode cX11_tires 109 = .ok (.istore 5, 2) := by decide +kernel
theorem dX11_tires_111 : decode cX11_tires 111 = .ok (.iinc 6 1, 3) := by decide +kernel
theorem dX11_tires_114 : decode cX11_tires 114 = .ok (.goto (-75), 3) := by decide +kernel
theorem dX11_tires_117 : decode cX11_tires 117 = .ok (.iload 5, 2) := by decide +kernel
theorem dX11_tires_119 : decode cX11_tires 119 = .ok (.ireturn, 1) := by decide +kernel
theorem dX11_inTheWay_0 : decode cX11_inTheWay 0 = .ok (.aload_n 0, 1) := by decide +kernel
theorem dX11_inTheWay_1 : decode cX11_inTheWay 1 = .ok (.iload_n 1, 1) := by decide +kernel
theorem dX11_inTheWay_2 : decode cX11_inTheWay 2 = .ok (.invokevirtual 180, 3) := by decide +kernel
theorem dX11_inTheWay_5 : decode cX11_inTheWay 5 = .ok (.istore_n 2, 1) := by decide +kernel
theorem dX11_inTheWay_6 : decode cX11_inTheWay 6 = .ok (.iload_n 2, 1) := by decide +kernel
theorem dX11_inTheWay_7 : decode cX11_inTheWay 7 = .ok (.ifCond .eq 5, 3) := by decide +kernel
theorem dX11_inTheWay_10 : decode cX11_inTheWay 10 = .ok (.iload_n 2, 1) := by decide +kernel
theorem dX11_inTheWay_11 : decode cX11_inTheWay 11 = .ok (.ireturn, 1) := by decide +kernel
theorem dX11_inTheWay_12 : decode cX11_inTheWay 12 = .ok (.aload_n 0, 1) := by decide +kernel
theorem dX11_inTheWay_13 : decode cX11_inTheWay 13 = .ok (.iload_n 1, 1) := by decide +kernel
theorem dX11_inTheWay_14 : decode cX11_inTheWay 14 = .ok (.invokevirtual 183, 3) := by decide +kernel
theorem dX11_inTheWay_17 : decode cX11_inTheWay 17 = .ok (.pop, 1) := by decide +kernel
theorem dX11_inTheWay_18 : decode cX11_inTheWay 18 = .ok (.aload_n 0, 1) := by decide +kernel
theorem dX11_inTheWay_19 : decode cX11_inTheWay 19 = .ok (.getfield 69, 3) := by decide +kernel
theorem dX11_inTheWay_22 : decode cX11_inTheWay 22 = .ok (.ireturn, 1) := by decide +kernel
theorem dX11_balls_0 : decode cX11_balls 0 = .ok (.aload_n 0, 1) := by decide +kernel
theorem dX11_balls_1 : decode cX11_balls 1 = .ok (.iload_n 1, 1) := by decide +kernel
theorem dX11_balls_2 : decode cX11_balls 2 = .ok (.invokevirtual 196, 3) := by decide +kernel
theorem dX11_balls_5 : decode cX11_balls 5 = .ok (.astore_n 3, 1) := by decide +kernel
theorem dX11_balls_6 : decode cX11_balls 6 = .ok (.aload_n 3, 1) := by decide +kernel
theorem dX11_balls_7 : decode cX11_balls 7 = .ok (.ifnull 12, 3) := by decide +kernel
theorem dX11_balls_10 : decode cX11_balls 10 = .ok (.iload_n 2, 1) := by decide +kernel
theorem dX11_balls_11 : decode cX11_balls 11 = .ok (.ifCond .lt 8, 3) := by decide +kernel
theorem dX11_balls_14 : decode cX11_balls 14 = .ok (.iload_n 2, 1) := by decide +kernel
theorem dX11_balls_15 : decode cX11_balls 15 = .ok (.iconst 1, 1) := by decide +kernel
theorem dX11_balls_16 : decode cX11_balls 16 = .ok (.if_icmp .le 6, 3) := by decide +kernel
theorem dX11_balls_19 : decode cX11_balls 19 = .ok (.bipush (-2), 2) := by decide +kernel
theorem dX11_balls_21 : decode cX11_balls 21 = .ok (.ireturn, 1) := by decide +kernel
theorem dX11_balls_22 : decode cX11_balls 22 = .ok (.aload_n 3, 1) := by decide +kernel
theorem dX11_balls_23 : decode cX11_balls 23 = .ok (.invokevirtual 221, 3) := by decide +kernel
theorem dX11_balls_26 : decode cX11_balls 26 = .ok (.ifCond .eq 6, 3) := by decide +kernel
theorem dX11_balls_29 : decode cX11_balls 29 = .ok (.bipush (-11), 2) := by decide +kernel
theorem dX11_balls_31 : decode cX11_balls 31 = .ok (.ireturn, 1) := by decide +kernel
theorem dX11_balls_32 : decode cX11_balls 32 = .ok (.aload_n 3, 1) := by decide +kernel
theorem dX11_balls_33 : decode cX11_balls 33 = .ok (.getfield 225, 3) := by decide +kernel
theorem dX11_balls_36 : decode cX11_balls 36 = .ok (.iconst 4, 1) := by decide +kernel
theorem dX11_balls_37 : decode cX11_balls 37 = .ok (.if_icmp .le 6, 3) := by decide +kernel
theorem dX11_balls_40 : decode cX11_balls 40 = .ok (.bipush (-2), 2) := by decide +kernel
theorem dX11_balls_42 : decode cX11_balls 42 = .ok (.ireturn, 1) := by decide +kernel
theorem dX11_balls_43 : decode cX11_balls 43 = .ok (.aload_n 0, 1) := by decide +kernel
theorem dX11_balls_44 : decode cX11_balls 44 = .ok (.iconst (-1), 1) := by decide +kernel
theorem dX11_balls_45 : decode cX11_balls 45 = .ok (.putfield 75, 3) := by decide +kernel
theorem dX11_balls_48 : decode cX11_balls 48 = .ok (.aload_n 0, 1) := by decide +kernel
theorem dX11_balls_49 : decode cX11_balls 49 = .ok (.aload_n 0, 1) := by decide +kernel
theorem dX11_balls_50 : decode cX11_balls 50 = .ok (.getfield 97, 3) := by decide +kernel
theorem dX11_balls_53 : decode cX11_balls 53 = .ok (.aload_n 3, 1) := by decide +kernel
theorem dX11_balls_54 : decode cX11_balls 54 = .ok (.iconst 0, 1) := by decide +kernel
theorem dX11_balls_55 : decode cX11_balls 55 = .ok (.iconst 0, 1) := by decide +kernel
theorem dX11_balls_56 : decode cX11_balls 56 = .ok (.invokevirtual 226, 3) := by decide +kernel
theorem dX11_balls_59 : decode cX11_balls 59 = .ok (.istore 4, 2) := by decide +kernel
theorem dX11_balls_61 : decode cX11_balls 61 = .ok (.iload_n 2, 1) := by decide +kernel
theorem dX11_balls_62 : decode cX11_balls 62 = .ok (.ifCond .ne 8, 3) := by decide +kernel
theorem dX11_balls_65 : decode cX11_balls 65 = .ok (.iload 4, 2) := by decide +kernel
theorem dX11_balls_67 : decode cX11_balls 67 = .ok (.goto 7, 3) := by decide +kernel
theorem dX11_balls_70 : decode cX11_balls 70 = .ok (.aload_n 0, 1) := by decide +kernel
theorem dX11_balls_71 : decode cX11_balls 71 = .ok (.getfield 75, 3) := by decide +kernel
theorem dX11_balls_74 : decode cX11_balls 74 = .ok (.ireturn, 1) := by decide +kernel
theorem dX11_quicks_0 : decode cX11_quicks 0 = .ok (.iload_n 2, 1) := by decide +kernel
theorem dX11_quicks_1 : decode cX11_quicks 1 = .ok (.ifCond .lt 18, 3) := by decide +kernel
theorem dX11_quicks_4 : decode cX11_quicks 4 = .ok (.iload_n 2, 1) := by decide +kernel
theorem dX11_quicks_5 : decode cX11_quicks 5 = .ok (.iconst 2, 1) := by decide +kernel
theorem dX11_quicks_6 : decode cX11_quicks 6 = .ok (.if_icmp .gt 13, 3) := by decide +kernel
theorem dX11_quicks_9 : decode cX11_quicks 9 = .ok (.iload_n 3, 1) := by decide +kernel
theorem dX11_quicks_10 : decode cX11_quicks 10 = .ok (.iconst (-1), 1) := by decide +kernel
theorem dX11_quicks_11 : decode cX11_quicks 11 = .ok (.if_icmp .lt 8, 3) := by decide +kernel
theorem dX11_quicks_14 : decode cX11_quicks 14 = .ok (.iload_n 3, 1) := by decide +kernel
theorem dX11_quicks_15 : decode cX11_quicks 15 = .ok (.iconst 1, 1) := by decide +kernel
theorem dX11_quicks_16 : decode cX11_quicks 16 = .ok (.if_icmp .le 6, 3) := by decide +kernel
theorem dX11_quicks_19 : decode cX11_quicks 19 = .ok (.bipush (-2), 2) := by decide +kernel
theorem dX11_quicks_21 : decode cX11_quicks 21 = .ok (.ireturn, 1) := by decide +kernel
theorem dX11_quicks_22 : decode cX11_quicks 22 = .ok (.aload_n 0, 1) := by decide +kernel
theorem dX11_quicks_23 : decode cX11_quicks 23 = .ok (.iload_n 1, 1) := by decide +kernel
theorem dX11_quicks_24 : decode cX11_quicks 24 = .ok (.invokevirtual 180, 3) := by decide +kernel
theorem dX11_quicks_27 : decode cX11_quicks 27 = .ok (.istore 4, 2) := by decide +kernel
theorem dX11_quicks_29 : decode cX11_quicks 29 = .ok (.iload 4, 2) := by decide +kernel
theorem dX11_quicks_31 : decode cX11_quicks 31 = .ok (.ifCond .eq 6, 3) := by decide +kernel
theorem dX11_quicks_34 : decode cX11_quicks 34 = .ok (.iload 4, 2) := by decide +kernel
theorem dX11_quicks_36 : decode cX11_quicks 36 = .ok (.ireturn, 1) := by decide +kernel
theorem dX11_quicks_37 : decode cX11_quicks 37 = .ok (.aload_n 0, 1) := by decide +kernel
theorem dX11_quicks_38 : decode cX11_quicks 38 = .ok (.iload_n 1, 1) := by decide +kernel
theorem dX11_quicks_39 : decode cX11_quicks 39 = .ok (.invokevirtual 196, 3) := by decide +kernel
theorem dX11_quicks_42 : decode cX11_quicks 42 = .ok (.astore 5, 2) := by decide +kernel
theorem dX11_quicks_44 : decode cX11_quicks 44 = .ok (.iload_n 2, 1) := by decide +kernel
theorem dX11_quicks_45 : decode cX11_quicks 45 = .ok (.iconst 2, 1) := by decide +kernel
theorem dX11_quicks_46 : decode cX11_quicks 46 = .ok (.if_icmp .ne 13, 3) := by decide +kernel
theorem dX11_quicks_49 : decode cX11_quicks 49 = .ok (.aload_n 0, 1) := by decide +kernel
theorem dX11_quicks_50 : decode cX11_quicks 50 = .ok (.aload 5, 2) := by decide +kernel
theorem dX11_quicks_52 : decode cX11_quicks 52 = .ok (.iload_n 3, 1) := by decide +kernel
theorem dX11_quicks_53 : decode cX11_quicks 53 = .ok (.invokevirtual 230, 3) := by decide +kernel
theorem dX11_quicks_56 : decode cX11_quicks 56 = .ok (.goto 11, 3) := by decide +kernel
theorem dX11_quicks_59 : decode cX11_quicks 59 = .ok (.aload_n 0, 1) := by decide +kernel
theorem dX11_quicks_60 : decode cX11_quicks 60 = .ok (.aload 5, 2) := by decide +kernel
theorem dX11_quicks_62 : decode cX11_quicks 62 = .ok (.iload_n 2, 1) := by decide +kernel
theorem dX11_quicks_63 : decode cX11_quicks 63 = .ok (.iload_n 3, 1) := by decide +kernel
theorem dX11_quicks_64 : decode cX11_quicks 64 = .ok (.invokevirtual 234, 3) := by decide +kernel
theorem dX11_quicks_67 : decode cX11_quicks 67 = .ok (.ireturn, 1) := by decide +kernel
theorem dX11_film_0 : decode cX11_film 0 = .ok (.aload_n 0, 1) := by decide +kernel
theorem dX11_film_1 : decode cX11_film 1 = .ok (.iload_n 1, 1) := by decide +kernel
theorem dX11_film_2 : decode cX11_film 2 = .ok (.invokevirtual 196, 3) := by decide +kernel
theorem dX11_film_5 : decode cX11_film 5 = .ok (.astore_n 3, 1) := by decide +kernel
theorem dX11_film_6 : decode cX11_film 6 = .ok (.aload_n 3, 1) := by decide +kernel
theorem dX11_film_7 : decode cX11_film 7 = .ok (.ifnonnull 6, 3) := by decide +kernel
theorem dX11_film_10 : decode cX11_film 10 = .ok (.bipush (-2), 2) := by decide +kernel
theorem dX11_film_12 : decode cX11_film 12 = .ok (.ireturn, 1) := by decide +kernel
theorem dX11_film_13 : decode cX11_film 13 = .ok (.aload_n 0, 1) := by decide +kernel
theorem dX11_film_14 : decode cX11_film 14 = .ok (.iload_n 2, 1) := by decide +kernel
theorem dX11_film_15 : decode cX11_film 15 = .ok (.invokevirtual 180, 3) := by decide +kernel
theorem dX11_film_18 : decode cX11_film 18 = .ok (.istore 4, 2) := by decide +kernel
theorem dX11_film_20 : decode cX11_film 20 = .ok (.iload 4, 2) := by decide +kernel
theorem dX11_film_22 : decode cX11_film 22 = .ok (.ifCond .eq 6, 3) := by decide +kernel
theorem dX11_film_25 : decode cX11_film 25 = .ok (.iload 4, 2) := by decide +kernel
theorem dX11_film_27 : decode cX11_film 27 = .ok (.ireturn, 1) := by decide +kernel
theorem dX11_film_28 : decode cX11_film 28 = .ok (.aload_n 0, 1) := by decide +kernel
theorem dX11_film_29 : decode cX11_film 29 = .ok (.iload_n 2, 1) := by decide +kernel
theorem dX11_film_30 : decode cX11_film 30 = .ok (.invokevirtual 183, 3) := by decide +kernel
theorem dX11_film_33 : decode cX11_film 33 = .ok (.pop, 1) := by decide +kernel
theorem dX11_film_34 : decode cX11_film 34 = .ok (.aload_n 3, 1) := by decide +kernel
theorem dX11_film_35 : decode cX11_film 35 = .ok (.iconst 0, 1) := by decide +kernel
theorem dX11_film_36 : decode cX11_film 36 = .ok (.aload_n 0, 1) := by decide +kernel
theorem dX11_film_37 : decode cX11_film 37 = .ok (.getfield 60, 3) := by decide +kernel
theorem dX11_film_40 : decode cX11_film 40 = .ok (.invokevirtual 238, 3) := by decide +kernel
theorem dX11_film_43 : decode cX11_film 43 = .ok (.iconst 0, 1) := by decide +kernel
theorem dX11_film_44 : decode cX11_film 44 = .ok (.istore 5, 2) := by decide +kernel
theorem dX11_film_46 : decode cX11_film 46 = .ok (.iload 5, 2) := by decide +kernel
theorem dX11_film_48 : decode cX11_film 48 = .ok (.aload_n 0, 1) := by decide +kernel
theorem dX11_film_49 : decode cX11_film 49 = .ok (.getfield 60, 3) := by decide +kernel
theorem dX11_film_52 : decode cX11_film 52 = .ok (.if_icmp .ge 32, 3) := by decide +kernel
theorem dX11_film_55 : decode cX11_film 55 = .ok (.iload 5, 2) := by decide +kernel
theorem dX11_film_57 : decode cX11_film 57 = .ok (.aload_n 0, 1) := by decide +kernel
theorem dX11_film_58 : decode cX11_film 58 = .ok (.getfield 57, 3) := by decide +kernel
theorem dX11_film_61 : decode cX11_film 61 = .ok (.arraylength, 1) := by decide +kernel
theorem dX11_film_62 : decode cX11_film 62 = .ok (.if_icmp .ge 22, 3) := by decide +kernel
theorem dX11_film_65 : decode cX11_film 65 = .ok (.aload_n 3, 1) := by decide +kernel
theorem dX11_film_66 : decode cX11_film 66 = .ok (.iload 5, 2) := by decide +kernel
theorem dX11_film_68 : decode cX11_film 68 = .ok (.aload_n 0, 1) := by decide +kernel
theorem dX11_film_69 : decode cX11_film 69 = .ok (.getfield 57, 3) := by decide +kernel
theorem dX11_film_72 : decode cX11_film 72 = .ok (.iload 5, 2) := by decide +kernel
theorem dX11_film_74 : decode cX11_film 74 = .ok (.iaload, 1) := by decide +kernel
theorem dX11_film_75 : decode cX11_film 75 = .ok (.invokevirtual 242, 3) := by decide +kernel
theorem dX11_film_78 : decode cX11_film 78 = .ok (.iinc 5 1, 3) := by decide +kernel
theorem dX11_film_81 : decode cX11_film 81 = .ok (.goto (-35), 3) := by decide +kernel
theorem dX11_film_84 : decode cX11_film 84 = .ok (.aload_n 0, 1) := by decide +kernel
theorem dX11_film_85 : decode cX11_film 85 = .ok (.getfield 60, 3) := by decide +kernel
theorem dX11_film_88 : decode cX11_film 88 = .ok (.ireturn, 1) := by decide +kernel
theorem dX11_drawn_0 : decode cX11_drawn 0 = .ok (.aload_n 0, 1) := by decide +kernel
theorem dX11_drawn_1 : decode cX11_drawn 1 = .ok (.getfield 32, 3) := by decide +kernel
theorem dX11_drawn_4 : decode cX11_drawn 4 = .ok (.ifCond .gt 5, 3) := by decide +kernel
theorem dX11_drawn_7 : decode cX11_drawn 7 = .ok (.iconst (-1), 1) := by decide +kernel
theorem dX11_drawn_8 : decode cX11_drawn 8 = .ok (.ireturn, 1) := by decide +kernel
theorem dX11_drawn_9 : decode cX11_drawn 9 = .ok (.aload_n 0, 1) := by decide +kernel
theorem dX11_drawn_10 : decode cX11_drawn 10 = .ok (.getfield 101, 3) := by decide +kernel
theorem dX11_drawn_13 : decode cX11_drawn 13 = .ok (.aload_n 0, 1) := by decide +kernel
theorem dX11_drawn_14 : decode cX11_drawn 14 = .ok (.getfield 97, 3) := by decide +kernel
theorem dX11_drawn_17 : decode cX11_drawn 17 = .ok (.invokevirtual 245, 3) := by decide +kernel
theorem dX11_drawn_20 : decode cX11_drawn 20 = .ok (.iload_n 1, 1) := by decide +kernel
theorem dX11_drawn_21 : decode cX11_drawn 21 = .ok (.istore_n 2, 1) := by decide +kernel
theorem dX11_drawn_22 : decode cX11_drawn 22 = .ok (.iconst 0, 1) := by decide +kernel
theorem dX11_drawn_23 : decode cX11_drawn 23 = .ok (.istore_n 3, 1) := by decide +kernel
theorem dX11_drawn_24 : decode cX11_drawn 24 = .ok (.iload_n 3, 1) := by decide +kernel
theorem dX11_drawn_25 : decode cX11_drawn 25 = .ok (.bipush 40, 2) := by decide +kernel
theorem dX11_drawn_27 : decode cX11_drawn 27 = .ok (.if_icmp .ge 60, 3) := by decide +kernel
theorem dX11_drawn_30 : decode cX11_drawn 30 = .ok (.iload_n 2, 1) := by decide +kernel
theorem dX11_drawn_31 : decode cX11_drawn 31 = .ok (.ldc 249, 2) := by decide +kernel
theorem dX11_drawn_33 : decode cX11_drawn 33 = .ok (.imul, 1) := by decide +kernel
theorem dX11_drawn_34 : decode cX11_drawn 34 = .ok (.sipush 12345, 3) := by decide +kernel
theorem dX11_drawn_37 : decode cX11_drawn 37 = .ok (.iadd, 1) := by decide +kernel
theorem dX11_drawn_38 : decode cX11_drawn 38 = .ok (.istore_n 2, 1) := by decide +kernel
theorem dX11_drawn_39 : decode cX11_drawn 39 = .ok (.aload_n 0, 1) := by decide +kernel
theorem dX11_drawn_40 : decode cX11_drawn 40 = .ok (.iload_n 2, 1) := by decide +kernel
theorem dX11_drawn_41 : decode cX11_drawn 41 = .ok (.bipush 9, 2) := by decide +kernel
theorem dX11_drawn_43 : decode cX11_drawn 43 = .ok (.iushr, 1) := by decide +kernel
theorem dX11_drawn_44 : decode cX11_drawn 44 = .ok (.aload_n 0, 1) := by decide +kernel
theorem dX11_drawn_45 : decode cX11_drawn 45 = .ok (.getfield 32, 3) := by decide +kernel
theorem dX11_drawn_48 : decode cX11_drawn 48 = .ok (.irem, 1) := by decide +kernel
theorem dX11_drawn_49 : decode cX11_drawn 49 = .ok (.invokevirtual 129, 3) := by decide +kernel
theorem dX11_drawn_52 : decode cX11_drawn 52 = .ok (.astore 4, 2) := by decide +kernel
theorem dX11_drawn_54 : decode cX11_drawn 54 = .ok (.iload_n 3, 1) := by decide +kernel
theorem dX11_drawn_55 : decode cX11_drawn 55 = .ok (.iconst 2, 1) := by decide +kernel
theorem dX11_drawn_56 : decode cX11_drawn 56 = .ok (.irem, 1) := by decide +kernel
theorem dX11_drawn_57 : decode cX11_drawn 57 = .ok (.istore 5, 2) := by decide +kernel
theorem dX11_drawn_59 : decode cX11_drawn 59 = .ok (.aload 4, 2) := by decide +kernel
theorem dX11_drawn_61 : decode cX11_drawn 61 = .ok (.ifnull 20, 3) := by decide +kernel
theorem dX11_drawn_64 : decode cX11_drawn 64 = .ok (.aload_n 0, 1) := by decide +kernel
theorem dX11_drawn_65 : decode cX11_drawn 65 = .ok (.getfield 101, 3) := by decide +kernel
theorem dX11_drawn_68 : decode cX11_drawn 68 = .ok (.iload 5, 2) := by decide +kernel
theorem dX11_drawn_70 : decode cX11_drawn 70 = .ok (.aload 4, 2) := by decide +kernel
theorem dX11_drawn_72 : decode cX11_drawn 72 = .ok (.invokevirtual 250, 3) := by decide +kernel
theorem dX11_drawn_75 : decode cX11_drawn 75 = .ok (.ifCond .eq 6, 3) := by decide +kernel
theorem dX11_drawn_78 : decode cX11_drawn 78 = .ok (.iload 5, 2) := by decide +kernel
theorem dX11_drawn_80 : decode cX11_drawn 80 = .ok (.ireturn, 1) := by decide +kernel
theorem dX11_drawn_81 : decode cX11_drawn 81 = .ok (.iinc 3 1, 3) := by decide +kernel
theorem dX11_drawn_84 : decode cX11_drawn 84 = .ok (.goto (-60), 3) := by decide +kernel
theorem dX11_drawn_87 : decode cX11_drawn 87 = .ok (.iconst (-1), 1) := by decide +kernel
theorem dX11_drawn_88 : decode cX11_drawn 88 = .ok (.ireturn, 1) := by decide +kernel
theorem dX11_chance_0 : decode cX11_chance 0 = .ok (.iload_n 2, 1) := by decide +kernel
theorem dX11_chance_1 : decode cX11_chance 1 = .ok (.iconst 1, 1) := by decide +kernel
theorem dX11_chance_2 : decode cX11_chance 2 = .ok (.if_icmp .lt 18, 3) := by decide +kernel
theorem dX11_chance_5 : decode cX11_chance 5 = .ok (.iload_n 2, 1) := by decide +kernel
theorem dX11_chance_6 : decode cX11_chance 6 = .ok (.bipush 20, 2) := by decide +kernel
theorem dX11_chance_8 : decode cX11_chance 8 = .ok (.if_icmp .gt 12, 3) := by decide +kernel
theorem dX11_chance_11 : decode cX11_chance 11 = .ok (.iload_n 3, 1) := by decide +kernel
theorem dX11_chance_12 : decode cX11_chance 12 = .ok (.ifCond .lt 8, 3) := by decide +kernel
theorem dX11_chance_15 : decode cX11_chance 15 = .ok (.iload_n 3, 1) := by decide +kernel
theorem dX11_chance_16 : decode cX11_chance 16 = .ok (.iconst 1, 1) := by decide +kernel
theorem dX11_chance_17 : decode cX11_chance 17 = .ok (.if_icmp .le 7, 3) := by decide +kernel
theorem dX11_chance_20 : decode cX11_chance 20 = .ok (.ldc2_w 204, 3) := by decide +kernel
theorem dX11_chance_23 : decode cX11_chance 23 = .ok (.lreturn, 1) := by decide +kernel
theorem dX11_chance_24 : decode cX11_chance 24 = .ok (.iconst 0, 1) := by decide +kernel
theorem dX11_chance_25 : decode cX11_chance 25 = .ok (.istore 4, 2) := by decide +kernel
theorem dX11_chance_27 : decode cX11_chance 27 = .ok (.iconst 0, 1) := by decide +kernel
theorem dX11_chance_28 : decode cX11_chance 28 = .ok (.istore 5, 2) := by decide +kernel
theorem dX11_chance_30 : decode cX11_chance 30 = .ok (.iload 5, 2) := by decide +kernel
theorem dX11_chance_32 : decode cX11_chance 32 = .ok (.iload_n 2, 1) := by decide +kernel
theorem dX11_chance_33 : decode cX11_chance 33 = .ok (.if_icmp .ge 23, 3) := by decide +kernel
theorem dX11_chance_36 : decode cX11_chance 36 = .ok (.aload_n 0, 1) := by decide +kernel
theorem dX11_chance_37 : decode cX11_chance 37 = .ok (.iload_n 1, 1) := by decide +kernel
theorem dX11_chance_38 : decode cX11_chance 38 = .ok (.iload 5, 2) := by decide +kernel
theorem dX11_chance_40 : decode cX11_chance 40 = .ok (.iadd, 1) := by decide +kernel
theorem dX11_chance_41 : decode cX11_chance 41 = .ok (.invokevirtual 253, 3) := by decide +kernel
theorem dX11_chance_44 : decode cX11_chance 44 = .ok (.ifCond .ne 6, 3) := by decide +kernel
theorem dX11_chance_47 : decode cX11_chance 47 = .ok (.iinc 4 1, 3) := by decide +kernel
theorem dX11_chance_50 : decode cX11_chance 50 = .ok (.iinc 5 1, 3) := by decide +kernel
theorem dX11_chance_53 : decode cX11_chance 53 = .ok (.goto (-23), 3) := by decide +kernel
theorem dX11_chance_56 : decode cX11_chance 56 = .ok (.iload_n 2, 1) := by decide +kernel
theorem dX11_chance_57 : decode cX11_chance 57 = .ok (.istore 5, 2) := by decide +kernel
theorem dX11_chance_59 : decode cX11_chance 59 = .ok (.iload 5, 2) := by decide +kernel
theorem dX11_chance_61 : decode cX11_chance 61 = .ok (.iconst 1, 1) := by decide +kernel
theorem dX11_chance_62 : decode cX11_chance 62 = .ok (.if_icmp .le 24, 3) := by decide +kernel
theorem dX11_chance_65 : decode cX11_chance 65 = .ok (.iload 4, 2) := by decide +kernel
theorem dX11_chance_67 : decode cX11_chance 67 = .ok (.iload 5, 2) := by decide +kernel
theorem dX11_chance_69 : decode cX11_chance 69 = .ok (.irem, 1) := by decide +kernel
theorem dX11_chance_70 : decode cX11_chance 70 = .ok (.ifCond .ne 10, 3) := by decide +kernel
theorem dX11_chance_73 : decode cX11_chance 73 = .ok (.iload_n 2, 1) := by decide +kernel
theorem dX11_chance_74 : decode cX11_chance 74 = .ok (.iload 5, 2) := by decide +kernel
theorem dX11_chance_76 : decode cX11_chance 76 = .ok (.irem, 1) := by decide +kernel
theorem dX11_chance_77 : decode cX11_chance 77 = .ok (.ifCond .eq 9, 3) := by decide +kernel
theorem dX11_chance_80 : decode cX11_chance 80 = .ok (.iinc 5 (-1), 3) := by decide +kernel
theorem dX11_chance_83 : decode cX11_chance 83 = .ok (.goto (-24), 3) := by decide +kernel
theorem dX11_chance_86 : decode cX11_chance 86 = .ok (.iload_n 3, 1) := by decide +kernel
theorem dX11_chance_87 : decode cX11_chance 87 = .ok (.ifCond .ne 12, 3) := by decide +kernel
theorem dX11_chance_90 : decode cX11_chance 90 = .ok (.iload 4, 2) := by decide +kernel
theorem dX11_chance_92 : decode cX11_chance 92 = .ok (.iload 5, 2) := by decide +kernel
theorem dX11_chance_94 : decode cX11_chance 94 = .ok (.idiv, 1) := by decide +kernel
theorem dX11_chance_95 : decode cX11_chance 95 = .ok (.i2l, 1) := by decide +kernel
theorem dX11_chance_96 : decode cX11_chance 96 = .ok (.goto 8, 3) := by decide +kernel
theorem dX11_chance_99 : decode cX11_chance 99 = .ok (.iload_n 2, 1) := by decide +kernel
theorem dX11_chance_100 : decode cX11_chance 100 = .ok (.iload 5, 2) := by decide +kernel
theorem dX11_chance_102 : decode cX11_chance 102 = .ok (.idiv, 1) := by decide +kernel
theorem dX11_chance_103 : decode cX11_chance 103 = .ok (.i2l, 1) := by decide +kernel
theorem dX11_chance_104 : decode cX11_chance 104 = .ok (.lreturn, 1) := by decide +kernel
theorem dX11_image_0 : decode cX11_image 0 = .ok (.aload_n 0, 1) := by decide +kernel
theorem dX11_image_1 : decode cX11_image 1 = .ok (.getfield 104, 3) := by decide +kernel
theorem dX11_image_4 : decode cX11_image 4 = .ok (.aload_n 0, 1) := by decide +kernel
theorem dX11_image_5 : decode cX11_image 5 = .ok (.getfield 97, 3) := by decide +kernel
theorem dX11_image_8 : decode cX11_image 8 = .ok (.invokevirtual 245, 3) := by decide +kernel
theorem dX11_image_11 : decode cX11_image 11 = .ok (.iconst 0, 1) := by decide +kernel
theorem dX11_image_12 : decode cX11_image 12 = .ok (.istore_n 1, 1) := by decide +kernel
theorem dX11_image_13 : decode cX11_image 13 = .ok (.iload_n 1, 1) := by decide +kernel
theorem dX11_image_14 : decode cX11_image 14 = .ok (.aload_n 0, 1) := by decide +kernel
theorem dX11_image_15 : decode cX11_image 15 = .ok (.getfield 32, 3) := by decide +kernel
theorem dX11_image_18 : decode cX11_image 18 = .ok (.if_icmp .ge 39, 3) := by decide +kernel
theorem dX11_image_21 : decode cX11_image 21 = .ok (.aload_n 0, 1) := by decide +kernel
theorem dX11_image_22 : decode cX11_image 22 = .ok (.iload_n 1, 1) := by decide +kernel
theorem dX11_image_23 : decode cX11_image 23 = .ok (.invokevirtual 129, 3) := by decide +kernel
theorem dX11_image_26 : decode cX11_image 26 = .ok (.astore_n 2, 1) := by decide +kernel
theorem dX11_image_27 : decode cX11_image 27 = .ok (.aload_n 2, 1) := by decide +kernel
theorem dX11_image_28 : decode cX11_image 28 = .ok (.ifnull 23, 3) := by decide +kernel
theorem dX11_image_31 : decode cX11_image 31 = .ok (.aload_n 0, 1) := by decide +kernel
theorem dX11_image_32 : decode cX11_image 32 = .ok (.getfield 41, 3) := by decide +kernel
theorem dX11_image_35 : decode cX11_image 35 = .ok (.iload_n 1, 1) := by decide +kernel
theorem dX11_image_36 : decode cX11_image 36 = .ok (.aload_n 2, 1) := by decide +kernel
theorem dX11_image_37 : decode cX11_image 37 = .ok (.getfield 256, 3) := by decide +kernel
theorem dX11_image_40 : decode cX11_image 40 = .ok (.iastore, 1) := by decide +kernel
theorem dX11_image_41 : decode cX11_image 41 = .ok (.aload_n 0, 1) := by decide +kernel
theorem dX11_image_42 : decode cX11_image 42 = .ok (.getfield 45, 3) := by decide +kernel
theorem dX11_image_45 : decode cX11_image 45 = .ok (.iload_n 1, 1) := by decide +kernel
theorem dX11_image_46 : decode cX11_image 46 = .ok (.aload_n 2, 1) := by decide +kernel
theorem dX11_image_47 : decode cX11_image 47 = .ok (.getfield 259, 3) := by decide +kernel
theorem dX11_image_50 : decode cX11_image 50 = .ok (.iastore, 1) := by decide +kernel
theorem dX11_image_51 : decode cX11_image 51 = .ok (.iinc 1 1, 3) := by decide +kernel
theorem dX11_image_54 : decode cX11_image 54 = .ok (.goto (-41), 3) := by decide +kernel
theorem dX11_image_57 : decode cX11_image 57 = .ok (.aload_n 0, 1) := by decide +kernel
theorem dX11_image_58 : decode cX11_image 58 = .ok (.aload_n 0, 1) := by decide +kernel
theorem dX11_image_59 : decode cX11_image 59 = .ok (.getfield 32, 3) := by decide +kernel
theorem dX11_image_62 : decode cX11_image 62 = .ok (.putfield 48, 3) := by decide +kernel
theorem dX11_image_65 : decode cX11_image 65 = .ok (.aload_n 0, 1) := by decide +kernel
theorem dX11_image_66 : decode cX11_image 66 = .ok (.getfield 32, 3) := by decide +kernel
theorem dX11_image_69 : decode cX11_image 69 = .ok (.ireturn, 1) := by decide +kernel
theorem dX11_back_0 : decode cX11_back 0 = .ok (.aload_n 0, 1) := by decide +kernel
theorem dX11_back_1 : decode cX11_back 1 = .ok (.getfield 48, 3) := by decide +kernel
theorem dX11_back_4 : decode cX11_back 4 = .ok (.ifCond .ge 6, 3) := by decide +kernel
theorem dX11_back_7 : decode cX11_back 7 = .ok (.bipush (-3), 2) := by decide +kernel
theorem dX11_back_9 : decode cX11_back 9 = .ok (.ireturn, 1) := by decide +kernel
theorem dX11_back_10 : decode cX11_back 10 = .ok (.aload_n 0, 1) := by decide +kernel
theorem dX11_back_11 : decode cX11_back 11 = .ok (.getfield 97, 3) := by decide +kernel
theorem dX11_back_14 : decode cX11_back 14 = .ok (.aload_n 0, 1) := by decide +kernel
theorem dX11_back_15 : decode cX11_back 15 = .ok (.getfield 104, 3) := by decide +kernel
theorem dX11_back_18 : decode cX11_back 18 = .ok (.invokevirtual 245, 3) := by decide +kernel
theorem dX11_back_21 : decode cX11_back 21 = .ok (.iconst 0, 1) := by decide +kernel
theorem dX11_back_22 : decode cX11_back 22 = .ok (.istore_n 1, 1) := by decide +kernel
theorem dX11_back_23 : decode cX11_back 23 = .ok (.iload_n 1, 1) := by decide +kernel
theorem dX11_back_24 : decode cX11_back 24 = .ok (.aload_n 0, 1) := by decide +kernel
theorem dX11_back_25 : decode cX11_back 25 = .ok (.getfield 28, 3) := by decide +kernel
theorem dX11_back_28 : decode cX11_back 28 = .ok (.arraylength, 1) := by decide +kernel
theorem dX11_back_29 : decode cX11_back 29 = .ok (.if_icmp .ge 57, 3) := by decide +kernel
theorem dX11_back_32 : decode cX11_back 32 = .ok (.aload_n 0, 1) := by decide +kernel
theorem dX11_back_33 : decode cX11_back 33 = .ok (.iload_n 1, 1) := by decide +kernel
theorem dX11_back_34 : decode cX11_back 34 = .ok (.invokevirtual 129, 3) := by decide +kernel
theorem dX11_back_37 : decode cX11_back 37 = .ok (.astore_n 2, 1) := by decide +kernel
theorem dX11_back_38 : decode cX11_back 38 = .ok (.iload_n 1, 1) := by decide +kernel
theorem dX11_back_39 : decode cX11_back 39 = .ok (.aload_n 0, 1) := by decide +kernel
theorem dX11_back_40 : decode cX11_back 40 = .ok (.getfield 48, 3) := by decide +kernel
theorem dX11_back_43 : decode cX11_back 43 = .ok (.if_icmp .lt 13, 3) := by decide +kernel
theorem dX11_back_46 : decode cX11_back 46 = .ok (.aload_n 0, 1) := by decide +kernel
theorem dX11_back_47 : decode cX11_back 47 = .ok (.getfield 28, 3) := by decide +kernel
theorem dX11_back_50 : decode cX11_back 50 = .ok (.iload_n 1, 1) := by decide +kernel
theorem dX11_back_51 : decode cX11_back 51 = .ok (.aconst_null, 1) := by decide +kernel
theorem dX11_back_52 : decode cX11_back 52 = .ok (.aastore, 1) := by decide +kernel
theorem dX11_back_53 : decode cX11_back 53 = .ok (.goto 27, 3) := by decide +kernel
theorem dX11_back_56 : decode cX11_back 56 = .ok (.aload_n 2, 1) := by decide +kernel
theorem dX11_back_57 : decode cX11_back 57 = .ok (.ifnull 23, 3) := by decide +kernel
theorem dX11_back_60 : decode cX11_back 60 = .ok (.aload_n 2, 1) := by decide +kernel
theorem dX11_back_61 : decode cX11_back 61 = .ok (.aload_n 0, 1) := by decide +kernel
theorem dX11_back_62 : decode cX11_back 62 = .ok (.getfield 41, 3) := by decide +kernel
theorem dX11_back_65 : decode cX11_back 65 = .ok (.iload_n 1, 1) := by decide +kernel
theorem dX11_back_66 : decode cX11_back 66 = .ok (.iaload, 1) := by decide +kernel
theorem dX11_back_67 : decode cX11_back 67 = .ok (.putfield 256, 3) := by decide +kernel
theorem dX11_back_70 : decode cX11_back 70 = .ok (.aload_n 2, 1) := by decide +kernel
theorem dX11_back_71 : decode cX11_back 71 = .ok (.aload_n 0, 1) := by decide +kernel
theorem dX11_back_72 : decode cX11_back 72 = .ok (.getfield 45, 3) := by decide +kernel
theorem dX11_back_75 : decode cX11_back 75 = .ok (.iload_n 1, 1) := by decide +kernel
theorem dX11_back_76 : decode cX11_back 76 = .ok (.iaload, 1) := by decide +kernel
theorem dX11_back_77 : decode cX11_back 77 = .ok (.putfield 259, 3) := by decide +kernel
theorem dX11_back_80 : decode cX11_back 80 = .ok (.iinc 1 1, 3) := by decide +kernel
theorem dX11_back_83 : decode cX11_back 83 = .ok (.goto (-60), 3) := by decide +kernel
theorem dX11_back_86 : decode cX11_back 86 = .ok (.aload_n 0, 1) := by decide +kernel
theorem dX11_back_87 : decode cX11_back 87 = .ok (.aload_n 0, 1) := by decide +kernel
theorem dX11_back_88 : decode cX11_back 88 = .ok (.getfield 48, 3) := by decide +kernel
theorem dX11_back_91 : decode cX11_back 91 = .ok (.putfield 32, 3) := by decide +kernel
theorem dX11_back_94 : decode cX11_back 94 = .ok (.aload_n 0, 1) := by decide +kernel
theorem dX11_back_95 : decode cX11_back 95 = .ok (.getfield 32, 3) := by decide +kernel
theorem dX11_back_98 : decode cX11_back 98 = .ok (.ireturn, 1) := by decide +kernel
theorem dX11_count_0 : decode cX11_count 0 = .ok (.iload_n 1, 1) := by decide +kernel
theorem dX11_count_1 : decode cX11_count 1 = .ok (.tableswitch 72 0 4 #[35, 40, 48, 53, 61], 35) := by decide +kernel
theorem dX11_count_36 : decode cX11_count 36 = .ok (.aload_n 0, 1) := by decide +kernel
theorem dX11_count_37 : decode cX11_count 37 = .ok (.getfield 32, 3) := by decide +kernel
theorem dX11_count_40 : decode cX11_count 40 = .ok (.ireturn, 1) := by decide +kernel
theorem dX11_count_41 : decode cX11_count 41 = .ok (.aload_n 0, 1) := by decide +kernel
theorem dX11_count_42 : decode cX11_count 42 = .ok (.getfield 97, 3) := by decide +kernel
theorem dX11_count_45 : decode cX11_count 45 = .ok (.getfield 112, 3) := by decide +kernel
theorem dX11_count_48 : decode cX11_count 48 = .ok (.ireturn, 1) := by decide +kernel
theorem dX11_count_49 : decode cX11_count 49 = .ok (.aload_n 0, 1) := by decide +kernel
theorem dX11_count_50 : decode cX11_count 50 = .ok (.getfield 22, 3) := by decide +kernel
theorem dX11_count_53 : decode cX11_count 53 = .ok (.ireturn, 1) := by decide +kernel
theorem dX11_count_54 : decode cX11_count 54 = .ok (.aload_n 0, 1) := by decide +kernel
theorem dX11_count_55 : decode cX11_count 55 = .ok (.getfield 18, 3) := by decide +kernel
theorem dX11_count_58 : decode cX11_count 58 = .ok (.getfield 91, 3) := by decide +kernel
theorem dX11_count_61 : decode cX11_count 61 = .ok (.ireturn, 1) := by decide +kernel
theorem dX11_count_62 : decode cX11_count 62 = .ok (.aload_n 0, 1) := by decide +kernel
theorem dX11_count_63 : decode cX11_count 63 = .ok (.getfield 97, 3) := by decide +kernel
theorem dX11_count_66 : decode cX11_count 66 = .ok (.getfield 173, 3) := by decide +kernel
theorem dX11_count_69 : decode cX11_count 69 = .ok (.getfield 177, 3) := by decide +kernel
theorem dX11_count_72 : decode cX11_count 72 = .ok (.ireturn, 1) := by decide +kernel
theorem dX11_count_73 : decode cX11_count 73 = .ok (.bipush (-2), 2) := by decide +kernel
theorem dX11_count_75 : decode cX11_count 75 = .ok (.ireturn, 1) := by decide +kernel
theorem dX11_sheet_0 : decode cX11_sheet 0 = .ok (.aload_n 0, 1) := by decide +kernel
theorem dX11_sheet_1 : decode cX11_sheet 1 = .ok (.iload_n 1, 1) := by decide +kernel
theorem dX11_sheet_2 : decode cX11_sheet 2 = .ok (.invokevirtual 196, 3) := by decide +kernel
theorem dX11_sheet_5 : decode cX11_sheet 5 = .ok (.astore 4, 2) := by decide +kernel
theorem dX11_sheet_7 : decode cX11_sheet 7 = .ok (.aload 4, 2) := by decide +kernel
theorem dX11_sheet_9 : decode cX11_sheet 9 = .ok (.ifnull 13, 3) := by decide +kernel
theorem dX11_sheet_12 : decode cX11_sheet 12 = .ok (.iload_n 2, 1) := by decide +kernel
theorem dX11_sheet_13 : decode cX11_sheet 13 = .ok (.iconst (-1), 1) := by decide +kernel
theorem dX11_sheet_14 : decode cX11_sheet 14 = .ok (.if_icmp .lt 8, 3) := by decide +kernel
theorem dX11_sheet_17 : decode cX11_sheet 17 = .ok (.iload_n 2, 1) := by decide +kernel
theorem dX11_sheet_18 : decode cX11_sheet 18 = .ok (.iconst 2, 1) := by decide +kernel
theorem dX11_sheet_19 : decode cX11_sheet 19 = .ok (.if_icmp .le 6, 3) := by decide +kernel
theorem dX11_sheet_22 : decode cX11_sheet 22 = .ok (.bipush (-2), 2) := by decide +kernel
theorem dX11_sheet_24 : decode cX11_sheet 24 = .ok (.ireturn, 1) := by decide +kernel
theorem dX11_sheet_25 : decode cX11_sheet 25 = .ok (.iload_n 2, 1) := by decide +kernel
theorem dX11_sheet_26 : decode cX11_sheet 26 = .ok (.iconst (-1), 1) := by decide +kernel
theorem dX11_sheet_27 : decode cX11_sheet 27 = .ok (.if_icmp .ne 12, 3) := by decide +kernel
theorem dX11_sheet_30 : decode cX11_sheet 30 = .ok (.aload 4, 2) := by decide +kernel
theorem dX11_sheet_32 : decode cX11_sheet 32 = .ok (.iconst (-1), 1) := by decide +kernel
theorem dX11_sheet_33 : decode cX11_sheet 33 = .ok (.iconst 0, 1) := by decide +kernel
theorem dX11_sheet_34 : decode cX11_sheet 34 = .ok (.invokevirtual 238, 3) := by decide +kernel
theorem dX11_sheet_37 : decode cX11_sheet 37 = .ok (.iconst 1, 1) := by decide +kernel
theorem dX11_sheet_38 : decode cX11_sheet 38 = .ok (.ireturn, 1) := by decide +kernel
theorem dX11_sheet_39 : decode cX11_sheet 39 = .ok (.iload_n 3, 1) := by decide +kernel
theorem dX11_sheet_40 : decode cX11_sheet 40 = .ok (.bipush 40, 2) := by decide +kernel
theorem dX11_sheet_42 : decode cX11_sheet 42 = .ok (.if_icmp .le 6, 3) := by decide +kernel
theorem dX11_sheet_45 : decode cX11_sheet 45 = .ok (.bipush (-2), 2) := by decide +kernel
theorem dX11_sheet_47 : decode cX11_sheet 47 = .ok (.ireturn, 1) := by decide +kernel
theorem dX11_sheet_48 : decode cX11_sheet 48 = .ok (.iload_n 3, 1) := by decide +kernel
theorem dX11_sheet_49 : decode cX11_sheet 49 = .ok (.ifCond .ge 6, 3) := by decide +kernel
theorem dX11_sheet_52 : decode cX11_sheet 52 = .ok (.bipush (-14), 2) := by decide +kernel
theorem dX11_sheet_54 : decode cX11_sheet 54 = .ok (.ireturn, 1) := by decide +kernel
theorem dX11_sheet_55 : decode cX11_sheet 55 = .ok (.aload 4, 2) := by decide +kernel
theorem dX11_sheet_57 : decode cX11_sheet 57 = .ok (.iload_n 2, 1) := by decide +kernel
theorem dX11_sheet_58 : decode cX11_sheet 58 = .ok (.iload_n 3, 1) := by decide +kernel
theorem dX11_sheet_59 : decode cX11_sheet 59 = .ok (.invokevirtual 238, 3) := by decide +kernel
theorem dX11_sheet_62 : decode cX11_sheet 62 = .ok (.iconst 1, 1) := by decide +kernel
theorem dX11_sheet_63 : decode cX11_sheet 63 = .ok (.ireturn, 1) := by decide +kernel
theorem dX11_cell_0 : decode cX11_cell 0 = .ok (.aload_n 0, 1) := by decide +kernel
theorem dX11_cell_1 : decode cX11_cell 1 = .ok (.iload_n 1, 1) := by decide +kernel
theorem dX11_cell_2 : decode cX11_cell 2 = .ok (.invokevirtual 196, 3) := by decide +kernel
theorem dX11_cell_5 : decode cX11_cell 5 = .ok (.astore 4, 2) := by decide +kernel
theorem dX11_cell_7 : decode cX11_cell 7 = .ok (.aload 4, 2) := by decide +kernel
theorem dX11_cell_9 : decode cX11_cell 9 = .ok (.ifnonnull 6, 3) := by decide +kernel
theorem dX11_cell_12 : decode cX11_cell 12 = .ok (.bipush (-2), 2) := by decide +kernel
theorem dX11_cell_14 : decode cX11_cell 14 = .ok (.ireturn, 1) := by decide +kernel
theorem dX11_cell_15 : decode cX11_cell 15 = .ok (.aload 4, 2) := by decide +kernel
theorem dX11_cell_17 : decode cX11_cell 17 = .ok (.invokevirtual 221, 3) := by decide +kernel
theorem dX11_cell_20 : decode cX11_cell 20 = .ok (.ifCond .eq 6, 3) := by decide +kernel
theorem dX11_cell_23 : decode cX11_cell 23 = .ok (.bipush (-11), 2) := by decide +kernel
theorem dX11_cell_25 : decode cX11_cell 25 = .ok (.ireturn, 1) := by decide +kernel
theorem dX11_cell_26 : decode cX11_cell 26 = .ok (.aload 4, 2) := by decide +kernel
theorem dX11_cell_28 : decode cX11_cell 28 = .ok (.iload_n 2, 1) := by decide +kernel
theorem dX11_cell_29 : decode cX11_cell 29 = .ok (.iconst 1, 1) := by decide +kernel
theorem dX11_cell_30 : decode cX11_cell 30 = .ok (.invokevirtual 262, 3) := by decide +kernel
theorem dX11_cell_33 : decode cX11_cell 33 = .ok (.ifCond .ne 6, 3) := by decide +kernel
theorem dX11_cell_36 : decode cX11_cell 36 = .ok (.bipush (-12), 2) := by decide +kernel
theorem dX11_cell_38 : decode cX11_cell 38 = .ok (.ireturn, 1) := by decide +kernel
theorem dX11_cell_39 : decode cX11_cell 39 = .ok (.aload 4, 2) := by decide +kernel
theorem dX11_cell_41 : decode cX11_cell 41 = .ok (.iload_n 2, 1) := by decide +kernel
theorem dX11_cell_42 : decode cX11_cell 42 = .ok (.iload_n 3, 1) := by decide +kernel
theorem dX11_cell_43 : decode cX11_cell 43 = .ok (.invokevirtual 242, 3) := by decide +kernel
theorem dX11_cell_46 : decode cX11_cell 46 = .ok (.iconst 1, 1) := by decide +kernel
theorem dX11_cell_47 : decode cX11_cell 47 = .ok (.ireturn, 1) := by decide +kernel
theorem dX11_copy_0 : decode cX11_copy 0 = .ok (.aload_n 0, 1) := by decide +kernel
theorem dX11_copy_1 : decode cX11_copy 1 = .ok (.iload_n 1, 1) := by decide +kernel
theorem dX11_copy_2 : decode cX11_copy 2 = .ok (.invokevirtual 196, 3) := by decide +kernel
theorem dX11_copy_5 : decode cX11_copy 5 = .ok (.astore 6, 2) := by decide +kernel
theorem dX11_copy_7 : decode cX11_copy 7 = .ok (.aload_n 0, 1) := by decide +kernel
theorem dX11_copy_8 : decode cX11_copy 8 = .ok (.iload_n 3, 1) := by decide +kernel
theorem dX11_copy_9 : decode cX11_copy 9 = .ok (.invokevirtual 196, 3) := by decide +kernel
theorem dX11_copy_12 : decode cX11_copy 12 = .ok (.astore 7, 2) := by decide +kernel
theorem dX11_copy_14 : decode cX11_copy 14 = .ok (.aload 6, 2) := by decide +kernel
theorem dX11_copy_16 : decode cX11_copy 16 = .ok (.ifnull 8, 3) := by decide +kernel
theorem dX11_copy_19 : decode cX11_copy 19 = .ok (.aload 7, 2) := by decide +kernel
theorem dX11_copy_21 : decode cX11_copy 21 = .ok (.ifnonnull 6, 3) := by decide +kernel
theorem dX11_copy_24 : decode cX11_copy 24 = .ok (.bipush (-2), 2) := by decide +kernel
theorem dX11_copy_26 : decode cX11_copy 26 = .ok (.ireturn, 1) := by decide +kernel
theorem dX11_copy_27 : decode cX11_copy 27 = .ok (.aload 6, 2) := by decide +kernel
theorem dX11_copy_29 : decode cX11_copy 29 = .ok (.invokevirtual 221, 3) := by decide +kernel
theorem dX11_copy_32 : decode cX11_copy 32 = .ok (.ifCond .ne 11, 3) := by decide +kernel
theorem dX11_copy_35 : decode cX11_copy 35 = .ok (.aload 7, 2) := by decide +kernel
theorem dX11_copy_37 : decode cX11_copy 37 = .ok (.invokevirtual 221, 3) := by decide +kernel
theorem dX11_copy_40 : decode cX11_copy 40 = .ok (.ifCond .eq 6, 3) := by decide +kernel
theorem dX11_copy_43 : decode cX11_copy 43 = .ok (.bipush (-11), 2) := by decide +kernel
theorem dX11_copy_45 : decode cX11_copy 45 = .ok (.ireturn, 1) := by decide +kernel
theorem dX11_copy_46 : decode cX11_copy 46 = .ok (.aload 6, 2) := by decide +kernel
theorem dX11_copy_48 : decode cX11_copy 48 = .ok (.getfield 265, 3) := by decide +kernel
theorem dX11_copy_51 : decode cX11_copy 51 = .ok (.aload 7, 2) := by decide +kernel
theorem dX11_copy_53 : decode cX11_copy 53 = .ok (.getfield 265, 3) := by decide +kernel
theorem dX11_copy_56 : decode cX11_copy 56 = .ok (.if_icmp .eq 6, 3) := by decide +kernel
theorem dX11_copy_59 : decode cX11_copy 59 = .ok (.bipush (-13), 2) := by decide +kernel
theorem dX11_copy_61 : decode cX11_copy 61 = .ok (.ireturn, 1) := by decide +kernel
theorem dX11_copy_62 : decode cX11_copy 62 = .ok (.aload 6, 2) := by decide +kernel
theorem dX11_copy_64 : decode cX11_copy 64 = .ok (.iload_n 2, 1) := by decide +kernel
theorem dX11_copy_65 : decode cX11_copy 65 = .ok (.iload 5, 2) := by decide +kernel
theorem dX11_copy_67 : decode cX11_copy 67 = .ok (.invokevirtual 262, 3) := by decide +kernel
theorem dX11_copy_70 : decode cX11_copy 70 = .ok (.ifCond .eq 15, 3) := by decide +kernel
theorem dX11_copy_73 : decode cX11_copy 73 = .ok (.aload 7, 2) := by decide +kernel
theorem dX11_copy_75 : decode cX11_copy 75 = .ok (.iload 4, 2) := by decide +kernel
theorem dX11_copy_77 : decode cX11_copy 77 = .ok (.iload 5, 2) := by decide +kernel
theorem dX11_copy_79 : decode cX11_copy 79 = .ok (.invokevirtual 262, 3) := by decide +kernel
theorem dX11_copy_82 : decode cX11_copy 82 = .ok (.ifCond .ne 6, 3) := by decide +kernel
theorem dX11_copy_85 : decode cX11_copy 85 = .ok (.bipush (-12), 2) := by decide +kernel
theorem dX11_copy_87 : decode cX11_copy 87 = .ok (.ireturn, 1) := by decide +kernel
theorem dX11_copy_88 : decode cX11_copy 88 = .ok (.aload 6, 2) := by decide +kernel
theorem dX11_copy_90 : decode cX11_copy 90 = .ok (.getfield 268, 3) := by decide +kernel
theorem dX11_copy_93 : decode cX11_copy 93 = .ok (.iload_n 2, 1) := by decide +kernel
theorem dX11_copy_94 : decode cX11_copy 94 = .ok (.aload 7, 2) := by decide +kernel
theorem dX11_copy_96 : decode cX11_copy 96 = .ok (.getfield 268, 3) := by decide +kernel
theorem dX11_copy_99 : decode cX11_copy 99 = .ok (.iload 4, 2) := by decide +kernel
theorem dX11_copy_101 : decode cX11_copy 101 = .ok (.iload 5, 2) := by decide +kernel
theorem dX11_copy_103 : decode cX11_copy 103 = .ok (.invokestatic 271, 3) := by decide +kernel
theorem dX11_copy_106 : decode cX11_copy 106 = .ok (.iload 5, 2) := by decide +kernel
theorem dX11_copy_108 : decode cX11_copy 108 = .ok (.ireturn, 1) := by decide +kernel
theorem dX11_strokes_0 : decode cX11_strokes 0 = .ok (.aload_n 0, 1) := by decide +kernel
theorem dX11_strokes_1 : decode cX11_strokes 1 = .ok (.iload_n 1, 1) := by decide +kernel
theorem dX11_strokes_2 : decode cX11_strokes 2 = .ok (.invokevirtual 196, 3) := by decide +kernel
theorem dX11_strokes_5 : decode cX11_strokes 5 = .ok (.astore 5, 2) := by decide +kernel
theorem dX11_strokes_7 : decode cX11_strokes 7 = .ok (.aload 5, 2) := by decide +kernel
theorem dX11_strokes_9 : decode cX11_strokes 9 = .ok (.ifnull 24, 3) := by decide +kernel
theorem dX11_strokes_12 : decode cX11_strokes 12 = .ok (.iload_n 2, 1) := by decide +kernel
theorem dX11_strokes_13 : decode cX11_strokes 13 = .ok (.ifCond .lt 20, 3) := by decide +kernel
theorem dX11_strokes_16 : decode cX11_strokes 16 = .ok (.iload_n 2, 1) := by decide +kernel
theorem dX11_strokes_17 : decode cX11_strokes 17 = .ok (.iconst 2, 1) := by decide +kernel
theorem dX11_strokes_18 : decode cX11_strokes 18 = .ok (.if_icmp .gt 15, 3) := by decide +kernel
theorem dX11_strokes_21 : decode cX11_strokes 21 = .ok (.iload 4, 2) := by decide +kernel
theorem dX11_strokes_23 : decode cX11_strokes 23 = .ok (.ifCond .lt 10, 3) := by decide +kernel
theorem dX11_strokes_26 : decode cX11_strokes 26 = .ok (.iload 4, 2) := by decide +kernel
theorem dX11_strokes_28 : decode cX11_strokes 28 = .ok (.bipush 6, 2) := by decide +kernel
theorem dX11_strokes_30 : decode cX11_strokes 30 = .ok (.if_icmp .le 6, 3) := by decide +kernel
theorem dX11_strokes_33 : decode cX11_strokes 33 = .ok (.bipush (-2), 2) := by decide +kernel
theorem dX11_strokes_35 : decode cX11_strokes 35 = .ok (.ireturn, 1) := by decide +kernel
theorem dX11_strokes_36 : decode cX11_strokes 36 = .ok (.aload 5, 2) := by decide +kernel
theorem dX11_strokes_38 : decode cX11_strokes 38 = .ok (.invokevirtual 221, 3) := by decide +kernel
theorem dX11_strokes_41 : decode cX11_strokes 41 = .ok (.ifCond .eq 6, 3) := by decide +kernel
theorem dX11_strokes_44 : decode cX11_strokes 44 = .ok (.bipush (-11), 2) := by decide +kernel
theorem dX11_strokes_46 : decode cX11_strokes 46 = .ok (.ireturn, 1) := by decide +kernel
theorem dX11_strokes_47 : decode cX11_strokes 47 = .ok (.aload 5, 2) := by decide +kernel
theorem dX11_strokes_49 : decode cX11_strokes 49 = .ok (.getfield 265, 3) := by decide +kernel
theorem dX11_strokes_52 : decode cX11_strokes 52 = .ok (.iload_n 2, 1) := by decide +kernel
theorem dX11_strokes_53 : decode cX11_strokes 53 = .ok (.if_icmp .eq 6, 3) := by decide +kernel
theorem dX11_strokes_56 : decode cX11_strokes 56 = .ok (.bipush (-13), 2) := by decide +kernel
theorem dX11_strokes_58 : decode cX11_strokes 58 = .ok (.ireturn, 1) := by decide +kernel
theorem dX11_strokes_59 : decode cX11_strokes 59 = .ok (.iconst 0, 1) := by decide +kernel
theorem dX11_strokes_60 : decode cX11_strokes 60 = .ok (.istore 6, 2) := by decide +kernel
theorem dX11_strokes_62 : decode cX11_strokes 62 = .ok (.iconst 0, 1) := by decide +kernel
theorem dX11_strokes_63 : decode cX11_strokes 63 = .ok (.istore 7, 2) := by decide +kernel
theorem dX11_strokes_65 : decode cX11_strokes 65 = .ok (.iload 7, 2) := by decide +kernel
theorem dX11_strokes_67 : decode cX11_strokes 67 = .ok (.iload 4, 2) := by decide +kernel
theorem dX11_strokes_69 : decode cX11_strokes 69 = .ok (.if_icmp .ge 66, 3) := by decide +kernel
theorem dX11_strokes_72 : decode cX11_strokes 72 = .ok (.iload_n 3, 1) := by decide +kernel
theorem dX11_strokes_73 : decode cX11_strokes 73 = .ok (.iconst 3, 1) := by decide +kernel
theorem dX11_strokes_74 : decode cX11_strokes 74 = .ok (.iload 7, 2) := by decide +kernel
theorem dX11_strokes_76 : decode cX11_strokes 76 = .ok (.imul, 1) := by decide +kernel
theorem dX11_strokes_77 : decode cX11_strokes 77 = .ok (.iadd, 1) := by decide +kernel
theorem dX11_strokes_78 : decode cX11_strokes 78 = .ok (.istore 8, 2) := by decide +kernel
theorem dX11_strokes_80 : decode cX11_strokes 80 = .ok (.aload 5, 2) := by decide +kernel
theorem dX11_strokes_82 : decode cX11_strokes 82 = .ok (.iload 8, 2) := by decide +kernel
theorem dX11_strokes_84 : decode cX11_strokes 84 = .ok (.iconst 3, 1) := by decide +kernel
theorem dX11_strokes_85 : decode cX11_strokes 85 = .ok (.invokevirtual 262, 3) := by decide +kernel
theorem dX11_strokes_88 : decode cX11_strokes 88 = .ok (.ifCond .ne 6, 3) := by decide +kernel
theorem dX11_strokes_91 : decode cX11_strokes 91 = .ok (.bipush (-12), 2) := by decide +kernel
theorem dX11_strokes_93 : decode cX11_strokes 93 = .ok (.ireturn, 1) := by decide +kernel
theorem dX11_strokes_94 : decode cX11_strokes 94 = .ok (.aload_n 0, 1) := by decide +kernel
theorem dX11_strokes_95 : decode cX11_strokes 95 = .ok (.aload 5, 2) := by decide +kernel
theorem dX11_strokes_97 : decode cX11_strokes 97 = .ok (.iload 8, 2) := by decide +kernel
theorem dX11_strokes_99 : decode cX11_strokes 99 = .ok (.invokevirtual 277, 3) := by decide +kernel
theorem dX11_strokes_102 : decode cX11_strokes 102 = .ok (.aload 5, 2) := by decide +kernel
theorem dX11_strokes_104 : decode cX11_strokes 104 = .ok (.iload 8, 2) := by decide +kernel
theorem dX11_strokes_106 : decode cX11_strokes 106 = .ok (.iconst 1, 1) := by decide +kernel
theorem dX11_strokes_107 : decode cX11_strokes 107 = .ok (.iadd, 1) := by decide +kernel
theorem dX11_strokes_108 : decode cX11_strokes 108 = .ok (.invokevirtual 277, 3) := by decide +kernel
theorem dX11_strokes_111 : decode cX11_strokes 111 = .ok (.aload 5, 2) := by decide +kernel
theorem dX11_strokes_113 : decode cX11_strokes 113 = .ok (.iload 8, 2) := by decide +kernel
theorem dX11_strokes_115 : decode cX11_strokes 115 = .ok (.iconst 2, 1) := by decide +kernel
theorem dX11_strokes_116 : decode cX11_strokes 116 = .ok (.iadd, 1) := by decide +kernel
theorem dX11_strokes_117 : decode cX11_strokes 117 = .ok (.invokevirtual 277, 3) := by decide +kernel
theorem dX11_strokes_120 : decode cX11_strokes 120 = .ok (.invokevirtual 280, 3) := by decide +kernel
theorem dX11_strokes_123 : decode cX11_strokes 123 = .ok (.ifCond .lt 6, 3) := by decide +kernel
theorem dX11_strokes_126 : decode cX11_strokes 126 = .ok (.iinc 6 1, 3) := by decide +kernel
theorem dX11_strokes_129 : decode cX11_strokes 129 = .ok (.iinc 7 1, 3) := by decide +kernel
theorem dX11_strokes_132 : decode cX11_strokes 132 = .ok (.goto (-67), 3) := by decide +kernel
theorem dX11_strokes_135 : decode cX11_strokes 135 = .ok (.iload 6, 2) := by decide +kernel
theorem dX11_strokes_137 : decode cX11_strokes 137 = .ok (.ireturn, 1) := by decide +kernel
theorem dX11_taken_0 : decode cX11_taken 0 = .ok (.iload_n 2, 1) := by decide +kernel
theorem dX11_taken_1 : decode cX11_taken 1 = .ok (.ifCond .lt 8, 3) := by decide +kernel
theorem dX11_taken_4 : decode cX11_taken 4 = .ok (.iload_n 2, 1) := by decide +kernel
theorem dX11_taken_5 : decode cX11_taken 5 = .ok (.iconst 5, 1) := by decide +kernel
theorem dX11_taken_6 : decode cX11_taken 6 = .ok (.if_icmp .le 6, 3) := by decide +kernel
theorem dX11_taken_9 : decode cX11_taken 9 = .ok (.bipush (-2), 2) := by decide +kernel
theorem dX11_taken_11 : decode cX11_taken 11 = .ok (.ireturn, 1) := by decide +kernel
theorem dX11_taken_12 : decode cX11_taken 12 = .ok (.aload_n 0, 1) := by decide +kernel
theorem dX11_taken_13 : decode cX11_taken 13 = .ok (.iload_n 1, 1) := by decide +kernel
theorem dX11_taken_14 : decode cX11_taken 14 = .ok (.invokevirtual 129, 3) := by decide +kernel
theorem dX11_taken_17 : decode cX11_taken 17 = .ok (.astore_n 3, 1) := by decide +kernel
theorem dX11_taken_18 : decode cX11_taken 18 = .ok (.aload_n 3, 1) := by decide +kernel
theorem dX11_taken_19 : decode cX11_taken 19 = .ok (.ifnonnull 6, 3) := by decide +kernel
theorem dX11_taken_22 : decode cX11_taken 22 = .ok (.bipush (-11), 2) := by decide +kernel
theorem dX11_taken_24 : decode cX11_taken 24 = .ok (.ireturn, 1) := by decide +kernel
theorem dX11_taken_25 : decode cX11_taken 25 = .ok (.aload_n 3, 1) := by decide +kernel
theorem dX11_taken_26 : decode cX11_taken 26 = .ok (.iload_n 2, 1) := by decide +kernel
theorem dX11_taken_27 : decode cX11_taken 27 = .ok (.invokestatic 284, 3) := by decide +kernel
theorem dX11_taken_30 : decode cX11_taken 30 = .ok (.ifCond .eq 10, 3) := by decide +kernel
theorem dX11_taken_33 : decode cX11_taken 33 = .ok (.aload_n 3, 1) := by decide +kernel
theorem dX11_taken_34 : decode cX11_taken 34 = .ok (.getfield 256, 3) := by decide +kernel
theorem dX11_taken_37 : decode cX11_taken 37 = .ok (.goto 5, 3) := by decide +kernel
theorem dX11_taken_40 : decode cX11_taken 40 = .ok (.bipush (-13), 2) := by decide +kernel
theorem dX11_taken_42 : decode cX11_taken 42 = .ok (.ireturn, 1) := by decide +kernel
theorem dX11_isPlayer_0 : decode cX11_isPlayer 0 = .ok (.iload_n 0, 1) := by decide +kernel
theorem dX11_isPlayer_1 : decode cX11_isPlayer 1 = .ok (.ifCond .eq 8, 3) := by decide +kernel
theorem dX11_isPlayer_4 : decode cX11_isPlayer 4 = .ok (.iload_n 0, 1) := by decide +kernel
theorem dX11_isPlayer_5 : decode cX11_isPlayer 5 = .ok (.iconst 1, 1) := by decide +kernel
theorem dX11_isPlayer_6 : decode cX11_isPlayer 6 = .ok (.if_icmp .ne 7, 3) := by decide +kernel
theorem dX11_isPlayer_9 : decode cX11_isPlayer 9 = .ok (.iconst 1, 1) := by decide +kernel
theorem dX11_isPlayer_10 : decode cX11_isPlayer 10 = .ok (.goto 4, 3) := by decide +kernel
theorem dX11_isPlayer_13 : decode cX11_isPlayer 13 = .ok (.iconst 0, 1) := by decide +kernel
theorem dX11_isPlayer_14 : decode cX11_isPlayer 14 = .ok (.ireturn, 1) := by decide +kernel
theorem dX11_isCell_0 : decode cX11_isCell 0 = .ok (.iload_n 0, 1) := by decide +kernel
theorem dX11_isCell_1 : decode cX11_isCell 1 = .ok (.ifCond .lt 13, 3) := by decide +kernel
theorem dX11_isCell_4 : decode cX11_isCell 4 = .ok (.iload_n 0, 1) := by decide +kernel
theorem dX11_isCell_5 : decode cX11_isCell 5 = .ok (.bipush 25, 2) := by decide +kernel
theorem dX11_isCell_7 : decode cX11_isCell 7 = .ok (.if_icmp .ge 7, 3) := by decide +kernel
theorem dX11_isCell_10 : decode cX11_isCell 10 = .ok (.iconst 1, 1) := by decide +kernel
theorem dX11_isCell_11 : decode cX11_isCell 11 = .ok (.goto 4, 3) := by decide +kernel
theorem dX11_isCell_14 : decode cX11_isCell 14 = .ok (.iconst 0, 1) := by decide +kernel
theorem dX11_isCell_15 : decode cX11_isCell 15 = .ok (.ireturn, 1) := by decide +kernel
theorem dX11_strokeAt_0 : decode cX11_strokeAt 0 = .ok (.iload_n 1, 1) := by decide +kernel
theorem dX11_strokeAt_1 : decode cX11_strokeAt 1 = .ok (.ifCond .lt 20, 3) := by decide +kernel
theorem dX11_strokeAt_4 : decode cX11_strokeAt 4 = .ok (.iload_n 1, 1) := by decide +kernel
theorem dX11_strokeAt_5 : decode cX11_strokeAt 5 = .ok (.aload_n 0, 1) := by decide +kernel
theorem dX11_strokeAt_6 : decode cX11_strokeAt 6 = .ok (.getfield 32, 3) := by decide +kernel
theorem dX11_strokeAt_9 : decode cX11_strokeAt 9 = .ok (.if_icmp .ge 12, 3) := by decide +kernel
theorem dX11_strokeAt_12 : decode cX11_strokeAt 12 = .ok (.iload_n 1, 1) := by decide +kernel
theorem dX11_strokeAt_13 : decode cX11_strokeAt 13 = .ok (.aload_n 0, 1) := by decide +kernel
theorem dX11_strokeAt_14 : decode cX11_strokeAt 14 = .ok (.getfield 28, 3) := by decide +kernel
theorem dX11_strokeAt_17 : decode cX11_strokeAt 17 = .ok (.arraylength, 1) := by decide +kernel
theorem dX11_strokeAt_18 : decode cX11_strokeAt 18 = .ok (.if_icmp .lt 7, 3) := by decide +kernel
theorem dX11_strokeAt_21 : decode cX11_strokeAt 21 = .ok (.aconst_null, 1) := by decide +kernel
theorem dX11_strokeAt_22 : decode cX11_strokeAt 22 = .ok (.goto 9, 3) := by decide +kernel
theorem dX11_strokeAt_25 : decode cX11_strokeAt 25 = .ok (.aload_n 0, 1) := by decide +kernel
theorem dX11_strokeAt_26 : decode cX11_strokeAt 26 = .ok (.getfield 28, 3) := by decide +kernel
theorem dX11_strokeAt_29 : decode cX11_strokeAt 29 = .ok (.iload_n 1, 1) := by decide +kernel
theorem dX11_strokeAt_30 : decode cX11_strokeAt 30 = .ok (.aaload, 1) := by decide +kernel
theorem dX11_strokeAt_31 : decode cX11_strokeAt 31 = .ok (.areturn, 1) := by decide +kernel
theorem dX11_sheetAt_0 : decode cX11_sheetAt 0 = .ok (.iload_n 1, 1) := by decide +kernel
theorem dX11_sheetAt_1 : decode cX11_sheetAt 1 = .ok (.ifCond .lt 12, 3) := by decide +kernel
theorem dX11_sheetAt_4 : decode cX11_sheetAt 4 = .ok (.iload_n 1, 1) := by decide +kernel
theorem dX11_sheetAt_5 : decode cX11_sheetAt 5 = .ok (.aload_n 0, 1) := by decide +kernel
theorem dX11_sheetAt_6 : decode cX11_sheetAt 6 = .ok (.getfield 53, 3) := by decide +kernel
theorem dX11_sheetAt_9 : decode cX11_sheetAt 9 = .ok (.arraylength, 1) := by decide +kernel
theorem dX11_sheetAt_10 : decode cX11_sheetAt 10 = .ok (.if_icmp .lt 7, 3) := by decide +kernel
theorem dX11_sheetAt_13 : decode cX11_sheetAt 13 = .ok (.aconst_null, 1) := by decide +kernel
theorem dX11_sheetAt_14 : decode cX11_sheetAt 14 = .ok (.goto 9, 3) := by decide +kernel
theorem dX11_sheetAt_17 : decode cX11_sheetAt 17 = .ok (.aload_n 0, 1) := by decide +kernel
theorem dX11_sheetAt_18 : decode cX11_sheetAt 18 = .ok (.getfield 53, 3) := by decide +kernel
theorem dX11_sheetAt_21 : decode cX11_sheetAt 21 = .ok (.iload_n 1, 1) := by decide +kernel
theorem dX11_sheetAt_22 : decode cX11_sheetAt 22 = .ok (.aaload, 1) := by decide +kernel
theorem dX11_sheetAt_23 : decode cX11_sheetAt 23 = .ok (.areturn, 1) := by decide +kernel
theorem dX11_fits_0 : decode cX11_fits 0 = .ok (.iload_n 0, 1) := by decide +kernel
theorem dX11_fits_1 : decode cX11_fits 1 = .ok (.tableswitch 131 0 6 #[43, 48, 65, 81, 99, 43, 115], 43) := by decide +kernel
theorem dX11_fits_44 : decode cX11_fits 44 = .ok (.iload_n 1, 1) := by decide +kernel
theorem dX11_fits_45 : decode cX11_fits 45 = .ok (.invokestatic 134, 3) := by decide +kernel
theorem dX11_fits_48 : decode cX11_fits 48 = .ok (.ireturn, 1) := by decide +kernel
theorem dX11_fits_49 : decode cX11_fits 49 = .ok (.iload_n 1, 1) := by decide +kernel
theorem dX11_fits_50 : decode cX11_fits 50 = .ok (.ifCond .lt 14, 3) := by decide +kernel
theorem dX11_fits_53 : decode cX11_fits 53 = .ok (.iload_n 1, 1) := by decide +kernel
theorem dX11_fits_54 : decode cX11_fits 54 = .ok (.sipush 999, 3) := by decide +kernel
theorem dX11_fits_57 : decode cX11_fits 57 = .ok (.if_icmp .gt 7, 3) := by decide +kernel
theorem dX11_fits_60 : decode cX11_fits 60 = .ok (.iconst 1, 1) := by decide +kernel
theorem dX11_fits_61 : decode cX11_fits 61 = .ok (.goto 4, 3) := by decide +kernel
theorem dX11_fits_64 : decode cX11_fits 64 = .ok (.iconst 0, 1) := by decide +kernel
theorem dX11_fits_65 : decode cX11_fits 65 = .ok (.ireturn, 1) := by decide +kernel
theorem dX11_fits_66 : decode cX11_fits 66 = .ok (.iload_n 1, 1) := by decide +kernel
theorem dX11_fits_67 : decode cX11_fits 67 = .ok (.ifCond .lt 13, 3) := by decide +kernel
theorem dX11_fits_70 : decode cX11_fits 70 = .ok (.iload_n 1, 1) := by decide +kernel
theorem dX11_fits_71 : decode cX11_fits 71 = .ok (.bipush 9, 2) := by decide +kernel
theorem dX11_fits_73 : decode cX11_fits 73 = .ok (.if_icmp .gt 7, 3) := by decide +kernel
theorem dX11_fits_76 : decode cX11_fits 76 = .ok (.iconst 1, 1) := by decide +kernel
theorem dX11_fits_77 : decode cX11_fits 77 = .ok (.goto 4, 3) := by decide +kernel
theorem dX11_fits_80 : decode cX11_fits 80 = .ok (.iconst 0, 1) := by decide +kernel
theorem dX11_fits_81 : decode cX11_fits 81 = .ok (.ireturn, 1) := by decide +kernel
theorem dX11_fits_82 : decode cX11_fits 82 = .ok (.iload_n 1, 1) := by decide +kernel
theorem dX11_fits_83 : decode cX11_fits 83 = .ok (.iconst (-1), 1) := by decide +kernel
theorem dX11_fits_84 : decode cX11_fits 84 = .ok (.if_icmp .eq 10, 3) := by decide +kernel
theorem dX11_fits_87 : decode cX11_fits 87 = .ok (.iload_n 1, 1) := by decide +kernel
theorem dX11_fits_88 : decode cX11_fits 88 = .ok (.invokestatic 134, 3) := by decide +kernel
theorem dX11_fits_91 : decode cX11_fits 91 = .ok (.ifCond .eq 7, 3) := by decide +kernel
theorem dX11_fits_94 : decode cX11_fits 94 = .ok (.iconst 1, 1) := by decide +kernel
theorem dX11_fits_95 : decode cX11_fits 95 = .ok (.goto 4, 3) := by decide +kernel
theorem dX11_fits_98 : decode cX11_fits 98 = .ok (.iconst 0, 1) := by decide +kernel
theorem dX11_fits_99 : decode cX11_fits 99 = .ok (.ireturn, 1) := by decide +kernel
theorem dX11_fits_100 : decode cX11_fits 100 = .ok (.iload_n 1, 1) := by decide +kernel
theorem dX11_fits_101 : decode cX11_fits 101 = .ok (.ifCond .lt 13, 3) := by decide +kernel
theorem dX11_fits_104 : decode cX11_fits 104 = .ok (.iload_n 1, 1) := by decide +kernel
theorem dX11_fits_105 : decode cX11_fits 105 = .ok (.bipush 9, 2) := by decide +kernel
theorem dX11_fits_107 : decode cX11_fits 107 = .ok (.if_icmp .gt 7, 3) := by decide +kernel
theorem dX11_fits_110 : decode cX11_fits 110 = .ok (.iconst 1, 1) := by decide +kernel
theorem dX11_fits_111 : decode cX11_fits 111 = .ok (.goto 4, 3) := by decide +kernel
theorem dX11_fits_114 : decode cX11_fits 114 = .ok (.iconst 0, 1) := by decide +kernel
theorem dX11_fits_115 : decode cX11_fits 115 = .ok (.ireturn, 1) := by decide +kernel
theorem dX11_fits_116 : decode cX11_fits 116 = .ok (.iload_n 1, 1) := by decide +kernel
theorem dX11_fits_117 : decode cX11_fits 117 = .ok (.ifCond .lt 13, 3) := by decide +kernel
theorem dX11_fits_120 : decode cX11_fits 120 = .ok (.iload_n 1, 1) := by decide +kernel
theorem dX11_fits_121 : decode cX11_fits 121 = .ok (.bipush 99, 2) := by decide +kernel
theorem dX11_fits_123 : decode cX11_fits 123 = .ok (.if_icmp .gt 7, 3) := by decide +kernel
theorem dX11_fits_126 : decode cX11_fits 126 = .ok (.iconst 1, 1) := by decide +kernel
theorem dX11_fits_127 : decode cX11_fits 127 = .ok (.goto 4, 3) := by decide +kernel
theorem dX11_fits_130 : decode cX11_fits 130 = .ok (.iconst 0, 1) := by decide +kernel
theorem dX11_fits_131 : decode cX11_fits 131 = .ok (.ireturn, 1) := by decide +kernel
theorem dX11_fits_132 : decode cX11_fits 132 = .ok (.iconst 0, 1) := by decide +kernel
theorem dX11_fits_133 : decode cX11_fits 133 = .ok (.ireturn, 1) := by decide +kernel
theorem dX11_newStroke_0 : decode cX11_newStroke 0 = .ok (.iload_n 0, 1) := by decide +kernel
theorem dX11_newStroke_1 : decode cX11_newStroke 1 = .ok (.tableswitch 85 1 5 #[35, 45, 55, 65, 75], 35) := by decide +kernel
theorem dX11_newStroke_36 : decode cX11_newStroke 36 = .ok (.new 288, 3) := by decide +kernel
theorem dX11_newStroke_39 : decode cX11_newStroke 39 = .ok (.dup, 1) := by decide +kernel
theorem dX11_newStroke_40 : decode cX11_newStroke 40 = .ok (.iload_n 1, 1) := by decide +kernel
theorem dX11_newStroke_41 : decode cX11_newStroke 41 = .ok (.iload_n 2, 1) := by decide +kernel
theorem dX11_newStroke_42 : decode cX11_newStroke 42 = .ok (.invokespecial 290, 3) := by decide +kernel
theorem dX11_newStroke_45 : decode cX11_newStroke 45 = .ok (.areturn, 1) := by decide +kernel
theorem dX11_newStroke_46 : decode cX11_newStroke 46 = .ok (.new 292, 3) := by decide +kernel
theorem dX11_newStroke_49 : decode cX11_newStroke 49 = .ok (.dup, 1) := by decide +kernel
theorem dX11_newStroke_50 : decode cX11_newStroke 50 = .ok (.iload_n 1, 1) := by decide +kernel
theorem dX11_newStroke_51 : decode cX11_newStroke 51 = .ok (.iload_n 2, 1) := by decide +kernel
theorem dX11_newStroke_52 : decode cX11_newStroke 52 = .ok (.invokespecial 294, 3) := by decide +kernel
theorem dX11_newStroke_55 : decode cX11_newStroke 55 = .ok (.areturn, 1) := by decide +kernel
theorem dX11_newStroke_56 : decode cX11_newStroke 56 = .ok (.new 295, 3) := by decide +kernel
theorem dX11_newStroke_59 : decode cX11_newStroke 59 = .ok (.dup, 1) := by decide +kernel
theorem dX11_newStroke_60 : decode cX11_newStroke 60 = .ok (.iload_n 1, 1) := by decide +kernel
theorem dX11_newStroke_61 : decode cX11_newStroke 61 = .ok (.iload_n 2, 1) := by decide +kernel
theorem dX11_newStroke_62 : decode cX11_newStroke 62 = .ok (.invokespecial 297, 3) := by decide +kernel
theorem dX11_newStroke_65 : decode cX11_newStroke 65 = .ok (.areturn, 1) := by decide +kernel
theorem dX11_newStroke_66 : decode cX11_newStroke 66 = .ok (.new 298, 3) := by decide +kernel
theorem dX11_newStroke_69 : decode cX11_newStroke 69 = .ok (.dup, 1) := by decide +kernel
theorem dX11_newStroke_70 : decode cX11_newStroke 70 = .ok (.iload_n 1, 1) := by decide +kernel
theorem dX11_newStroke_71 : decode cX11_newStroke 71 = .ok (.iload_n 2, 1) := by decide +kernel
theorem dX11_newStroke_72 : decode cX11_newStroke 72 = .ok (.invokespecial 300, 3) := by decide +kernel
theorem dX11_newStroke_75 : decode cX11_newStroke 75 = .ok (.areturn, 1) := by decide +kernel
theorem dX11_newStroke_76 : decode cX11_newStroke 76 = .ok (.new 301, 3) := by decide +kernel
theorem dX11_newStroke_79 : decode cX11_newStroke 79 = .ok (.dup, 1) := by decide +kernel
theorem dX11_newStroke_80 : decode cX11_newStroke 80 = .ok (.iload_n 1, 1) := by decide +kernel
theorem dX11_newStroke_81 : decode cX11_newStroke 81 = .ok (.iload_n 2, 1) := by decide +kernel
theorem dX11_newStroke_82 : decode cX11_newStroke 82 = .ok (.invokespecial 303, 3) := by decide +kernel
theorem dX11_newStroke_85 : decode cX11_newStroke 85 = .ok (.areturn, 1) := by decide +kernel
theorem dX11_newStroke_86 : decode cX11_newStroke 86 = .ok (.new 26, 3) := by decide +kernel
theorem dX11_newStroke_89 : decode cX11_newStroke 89 = .ok (.dup, 1) := by decide +kernel
theorem dX11_newStroke_90 : decode cX11_newStroke 90 = .ok (.iload_n 1, 1) := by decide +kernel
theorem dX11_newStroke_91 : decode cX11_newStroke 91 = .ok (.iload_n 2, 1) := by decide +kernel
theorem dX11_newStroke_92 : decode cX11_newStroke 92 = .ok (.invokespecial 304, 3) := by decide +kernel
theorem dX11_newStroke_95 : decode cX11_newStroke 95 = .ok (.areturn, 1) := by decide +kernel
theorem dX11_isUnder_0 : decode cX11_isUnder 0 = .ok (.iload_n 1, 1) := by decide +kernel
theorem dX11_isUnder_1 : decode cX11_isUnder 1 = .ok (.tableswitch 60 1 5 #[35, 40, 45, 50, 55], 35) := by decide +kernel
theorem dX11_isUnder_36 : decode cX11_isUnder 36 = .ok (.aload_n 0, 1) := by decide +kernel
theorem dX11_isUnder_37 : decode cX11_isUnder 37 = .ok (.instanceof 288, 3) := by decide +kernel
theorem dX11_isUnder_40 : decode cX11_isUnder 40 = .ok (.ireturn, 1) := by decide +kernel
theorem dX11_isUnder_41 : decode cX11_isUnder 41 = .ok (.aload_n 0, 1) := by decide +kernel
theorem dX11_isUnder_42 : decode cX11_isUnder 42 = .ok (.instanceof 292, 3) := by decide +kernel
theorem dX11_isUnder_45 : decode cX11_isUnder 45 = .ok (.ireturn, 1) := by decide +kernel
theorem dX11_isUnder_46 : decode cX11_isUnder 46 = .ok (.aload_n 0, 1) := by decide +kernel
theorem dX11_isUnder_47 : decode cX11_isUnder 47 = .ok (.instanceof 295, 3) := by decide +kernel
theorem dX11_isUnder_50 : decode cX11_isUnder 50 = .ok (.ireturn, 1) := by decide +kernel
theorem dX11_isUnder_51 : decode cX11_isUnder 51 = .ok (.aload_n 0, 1) := by decide +kernel
theorem dX11_isUnder_52 : decode cX11_isUnder 52 = .ok (.instanceof 298, 3) := by decide +kernel
theorem dX11_isUnder_55 : decode cX11_isUnder 55 = .ok (.ireturn, 1) := by decide +kernel
theorem dX11_isUnder_56 : decode cX11_isUnder 56 = .ok (.aload_n 0, 1) := by decide +kernel
theorem dX11_isUnder_57 : decode cX11_isUnder 57 = .ok (.instanceof 301, 3) := by decide +kernel
theorem dX11_isUnder_60 : decode cX11_isUnder 60 = .ok (.ireturn, 1) := by decide +kernel
theorem dX11_isUnder_61 : decode cX11_isUnder 61 = .ok (.iconst 1, 1) := by decide +kernel
theorem dX11_isUnder_62 : decode cX11_isUnder 62 = .ok (.ireturn, 1) := by decide +kernel
theorem dX11_apart_0 : decode cX11_apart 0 = .ok (.iload_n 0, 1) := by decide +kernel
theorem dX11_apart_1 : decode cX11_apart 1 = .ok (.iconst 5, 1) := by decide +kernel
theorem dX11_apart_2 : decode cX11_apart 2 = .ok (.irem, 1) := by decide +kernel
theorem dX11_apart_3 : decode cX11_apart 3 = .ok (.iload_n 1, 1) := by decide +kernel
theorem dX11_apart_4 : decode cX11_apart 4 = .ok (.iconst 5, 1) := by decide +kernel
theorem dX11_apart_5 : decode cX11_apart 5 = .ok (.irem, 1) := by decide +kernel
theorem dX11_apart_6 : decode cX11_apart 6 = .ok (.isub, 1) := by decide +kernel
theorem dX11_apart_7 : decode cX11_apart 7 = .ok (.invokestatic 305, 3) := by decide +kernel
theorem dX11_apart_10 : decode cX11_apart 10 = .ok (.iload_n 0, 1) := by decide +kernel
theorem dX11_apart_11 : decode cX11_apart 11 = .ok (.iconst 5, 1) := by decide +kernel
theorem dX11_apart_12 : decode cX11_apart 12 = .ok (.idiv, 1) := by decide +kernel
theorem dX11_apart_13 : decode cX11_apart 13 = .ok (.iload_n 1, 1) := by decide +kernel
theorem dX11_apart_14 : decode cX11_apart 14 = .ok (.iconst 5, 1) := by decide +kernel
theorem dX11_apart_15 : decode cX11_apart 15 = .ok (.idiv, 1) := by decide +kernel
theorem dX11_apart_16 : decode cX11_apart 16 = .ok (.isub, 1) := by decide +kernel
theorem dX11_apart_17 : decode cX11_apart 17 = .ok (.invokestatic 305, 3) := by decide +kernel
theorem dX11_apart_20 : decode cX11_apart 20 = .ok (.invokestatic 310, 3) := by decide +kernel
theorem dX11_apart_23 : decode cX11_apart 23 = .ok (.ireturn, 1) := by decide +kernel
theorem dX11_across_0 : decode cX11_across 0 = .ok (.iload_n 0, 1) := by decide +kernel
theorem dX11_across_1 : decode cX11_across 1 = .ok (.iload_n 0, 1) := by decide +kernel
theorem dX11_across_2 : decode cX11_across 2 = .ok (.iconst 5, 1) := by decide +kernel
theorem dX11_across_3 : decode cX11_across 3 = .ok (.irem, 1) := by decide +kernel
theorem dX11_across_4 : decode cX11_across 4 = .ok (.isub, 1) := by decide +kernel
theorem dX11_across_5 : decode cX11_across 5 = .ok (.iconst 5, 1) := by decide +kernel
theorem dX11_across_6 : decode cX11_across 6 = .ok (.iadd, 1) := by decide +kernel
theorem dX11_across_7 : decode cX11_across 7 = .ok (.iconst 1, 1) := by decide +kernel
theorem dX11_across_8 : decode cX11_across 8 = .ok (.isub, 1) := by decide +kernel
theorem dX11_across_9 : decode cX11_across 9 = .ok (.iload_n 0, 1) := by decide +kernel
theorem dX11_across_10 : decode cX11_across 10 = .ok (.iconst 5, 1) := by decide +kernel
theorem dX11_across_11 : decode cX11_across 11 = .ok (.irem, 1) := by decide +kernel
theorem dX11_across_12 : decode cX11_across 12 = .ok (.isub, 1) := by decide +kernel
theorem dX11_across_13 : decode cX11_across 13 = .ok (.ireturn, 1) := by decide +kernel
theorem dX11_within_0 : decode cX11_within 0 = .ok (.iconst 0, 1) := by decide +kernel
theorem dX11_within_1 : decode cX11_within 1 = .ok (.iload_n 1, 1) := by decide +kernel
theorem dX11_within_2 : decode cX11_within 2 = .ok (.iload_n 0, 1) := by decide +kernel
theorem dX11_within_3 : decode cX11_within 3 = .ok (.invokestatic 313, 3) := by decide +kernel
theorem dX11_within_6 : decode cX11_within 6 = .ok (.invokestatic 310, 3) := by decide +kernel
theorem dX11_within_9 : decode cX11_within 9 = .ok (.ireturn, 1) := by decide +kernel
theorem dX11_goesOver_0 : decode cX11_goesOver 0 = .ok (.iload_n 0, 1) := by decide +kernel
theorem dX11_goesOver_1 : decode cX11_goesOver 1 = .ok (.iconst 5, 1) := by decide +kernel
theorem dX11_goesOver_2 : decode cX11_goesOver 2 = .ok (.irem, 1) := by decide +kernel
theorem dX11_goesOver_3 : decode cX11_goesOver 3 = .ok (.istore_n 3, 1) := by decide +kernel
theorem dX11_goesOver_4 : decode cX11_goesOver 4 = .ok (.iload_n 0, 1) := by decide +kernel
theorem dX11_goesOver_5 : decode cX11_goesOver 5 = .ok (.iconst 5, 1) := by decide +kernel
theorem dX11_goesOver_6 : decode cX11_goesOver 6 = .ok (.idiv, 1) := by decide +kernel
theorem dX11_goesOver_7 : decode cX11_goesOver 7 = .ok (.istore 4, 2) := by decide +kernel
theorem dX11_goesOver_9 : decode cX11_goesOver 9 = .ok (.iload_n 0, 1) := by decide +kernel
theorem dX11_goesOver_10 : decode cX11_goesOver 10 = .ok (.iload_n 1, 1) := by decide +kernel
theorem dX11_goesOver_11 : decode cX11_goesOver 11 = .ok (.invokestatic 214, 3) := by decide +kernel
theorem dX11_goesOver_14 : decode cX11_goesOver 14 = .ok (.istore 5, 2) := by decide +kernel
theorem dX11_goesOver_16 : decode cX11_goesOver 16 = .ok (.iload 5, 2) := by decide +kernel
theorem dX11_goesOver_18 : decode cX11_goesOver 18 = .ok (.ifCond .le 44, 3) := by decide +kernel
theorem dX11_goesOver_21 : decode cX11_goesOver 21 = .ok (.iload_n 3, 1) := by decide +kernel
theorem dX11_goesOver_22 : decode cX11_goesOver 22 = .ok (.iload_n 1, 1) := by decide +kernel
theorem dX11_goesOver_23 : decode cX11_goesOver 23 = .ok (.iconst 5, 1) := by decide +kernel
theorem dX11_goesOver_24 : decode cX11_goesOver 24 = .ok (.irem, 1) := by decide +kernel
theorem dX11_goesOver_25 : decode cX11_goesOver 25 = .ok (.iload_n 3, 1) := by decide +kernel
theorem dX11_goesOver_26 : decode cX11_goesOver 26 = .ok (.invokestatic 316, 3) := by decide +kernel
theorem dX11_goesOver_29 : decode cX11_goesOver 29 = .ok (.iadd, 1) := by decide +kernel
theorem dX11_goesOver_30 : decode cX11_goesOver 30 = .ok (.istore_n 3, 1) := by decide +kernel
theorem dX11_goesOver_31 : decode cX11_goesOver 31 = .ok (.iload 4, 2) := by decide +kernel
theorem dX11_goesOver_33 : decode cX11_goesOver 33 = .ok (.iload_n 1, 1) := by decide +kernel
theorem dX11_goesOver_34 : decode cX11_goesOver 34 = .ok (.iconst 5, 1) := by decide +kernel
theorem dX11_goesOver_35 : decode cX11_goesOver 35 = .ok (.idiv, 1) := by decide +kernel
theorem dX11_goesOver_36 : decode cX11_goesOver 36 = .ok (.iload 4, 2) := by decide +kernel
theorem dX11_goesOver_38 : decode cX11_goesOver 38 = .ok (.invokestatic 316, 3) := by decide +kernel
theorem dX11_goesOver_41 : decode cX11_goesOver 41 = .ok (.iadd, 1) := by decide +kernel
theorem dX11_goesOver_42 : decode cX11_goesOver 42 = .ok (.istore 4, 2) := by decide +kernel
theorem dX11_goesOver_44 : decode cX11_goesOver 44 = .ok (.iload 4, 2) := by decide +kernel
theorem dX11_goesOver_46 : decode cX11_goesOver 46 = .ok (.iconst 5, 1) := by decide +kernel
theorem dX11_goesOver_47 : decode cX11_goesOver 47 = .ok (.imul, 1) := by decide +kernel
theorem dX11_goesOver_48 : decode cX11_goesOver 48 = .ok (.iload_n 3, 1) := by decide +kernel
theorem dX11_goesOver_49 : decode cX11_goesOver 49 = .ok (.iadd, 1) := by decide +kernel
theorem dX11_goesOver_50 : decode cX11_goesOver 50 = .ok (.iload_n 2, 1) := by decide +kernel
theorem dX11_goesOver_51 : decode cX11_goesOver 51 = .ok (.if_icmp .ne 5, 3) := by decide +kernel
theorem dX11_goesOver_54 : decode cX11_goesOver 54 = .ok (.iconst 1, 1) := by decide +kernel
theorem dX11_goesOver_55 : decode cX11_goesOver 55 = .ok (.ireturn, 1) := by decide +kernel
theorem dX11_goesOver_56 : decode cX11_goesOver 56 = .ok (.iinc 5 (-1), 3) := by decide +kernel
theorem dX11_goesOver_59 : decode cX11_goesOver 59 = .ok (.goto (-43), 3) := by decide +kernel
theorem dX11_goesOver_62 : decode cX11_goesOver 62 = .ok (.iconst 0, 1) := by decide +kernel
theorem dX11_goesOver_63 : decode cX11_goesOver 63 = .ok (.ireturn, 1) := by decide +kernel
theorem dX11_refusalOfRally_0 : decode cX11_refusalOfRally 0 = .ok (.aload_n 0, 1) := by decide +kernel
theorem dX11_refusalOfRally_1 : decode cX11_refusalOfRally 1 = .ok (.iload_n 1, 1) := by decide +kernel
theorem dX11_refusalOfRally_2 : decode cX11_refusalOfRally 2 = .ok (.invokevirtual 196, 3) := by decide +kernel
theorem dX11_refusalOfRally_5 : decode cX11_refusalOfRally 5 = .ok (.astore_n 2, 1) := by decide +kernel
theorem dX11_refusalOfRally_6 : decode cX11_refusalOfRally 6 = .ok (.aload_n 2, 1) := by decide +kernel
theorem dX11_refusalOfRally_7 : decode cX11_refusalOfRally 7 = .ok (.ifnonnull 6, 3) := by decide +kernel
theorem dX11_refusalOfRally_10 : decode cX11_refusalOfRally 10 = .ok (.bipush (-2), 2) := by decide +kernel
theorem dX11_refusalOfRally_12 : decode cX11_refusalOfRally 12 = .ok (.ireturn, 1) := by decide +kernel
theorem dX11_refusalOfRally_13 : decode cX11_refusalOfRally 13 = .ok (.aload_n 2, 1) := by decide +kernel
theorem dX11_refusalOfRally_14 : decode cX11_refusalOfRally 14 = .ok (.invokevirtual 221, 3) := by decide +kernel
theorem dX11_refusalOfRally_17 : decode cX11_refusalOfRally 17 = .ok (.ifCond .eq 6, 3) := by decide +kernel
theorem dX11_refusalOfRally_20 : decode cX11_refusalOfRally 20 = .ok (.bipush (-11), 2) := by decide +kernel
theorem dX11_refusalOfRally_22 : decode cX11_refusalOfRally 22 = .ok (.ireturn, 1) := by decide +kernel
theorem dX11_refusalOfRally_23 : decode cX11_refusalOfRally 23 = .ok (.iconst 0, 1) := by decide +kernel
theorem dX11_refusalOfRally_24 : decode cX11_refusalOfRally 24 = .ok (.istore_n 3, 1) := by decide +kernel
theorem dX11_refusalOfRally_25 : decode cX11_refusalOfRally 25 = .ok (.iload_n 3, 1) := by decide +kernel
theorem dX11_refusalOfRally_26 : decode cX11_refusalOfRally 26 = .ok (.aload_n 2, 1) := by decide +kernel
theorem dX11_refusalOfRally_27 : decode cX11_refusalOfRally 27 = .ok (.getfield 225, 3) := by decide +kernel
theorem dX11_refusalOfRally_30 : decode cX11_refusalOfRally 30 = .ok (.if_icmp .ge 24, 3) := by decide +kernel
theorem dX11_refusalOfRally_33 : decode cX11_refusalOfRally 33 = .ok (.aload_n 0, 1) := by decide +kernel
theorem dX11_refusalOfRally_34 : decode cX11_refusalOfRally 34 = .ok (.aload_n 2, 1) := by decide +kernel
theorem dX11_refusalOfRally_35 : decode cX11_refusalOfRally 35 = .ok (.iload_n 3, 1) := by decide +kernel
theorem dX11_refusalOfRally_36 : decode cX11_refusalOfRally 36 = .ok (.invokevirtual 277, 3) := by decide +kernel
theorem dX11_refusalOfRally_39 : decode cX11_refusalOfRally 39 = .ok (.invokevirtual 129, 3) := by decide +kernel
theorem dX11_refusalOfRally_42 : decode cX11_refusalOfRally 42 = .ok (.ifnonnull 6, 3) := by decide +kernel
theorem dX11_refusalOfRally_45 : decode cX11_refusalOfRally 45 = .ok (.bipush (-2), 2) := by decide +kernel
theorem dX11_refusalOfRally_47 : decode cX11_refusalOfRally 47 = .ok (.ireturn, 1) := by decide +kernel
theorem dX11_refusalOfRally_48 : decode cX11_refusalOfRally 48 = .ok (.iinc 3 1, 3) := by decide +kernel
theorem dX11_refusalOfRally_51 : decode cX11_refusalOfRally 51 = .ok (.goto (-26), 3) := by decide +kernel
theorem dX11_refusalOfRally_54 : decode cX11_refusalOfRally 54 = .ok (.iconst 0, 1) := by decide +kernel
theorem dX11_refusalOfRally_55 : decode cX11_refusalOfRally 55 = .ok (.ireturn, 1) := by decide +kernel
theorem dX11_playInThought_0 : decode cX11_playInThought 0 = .ok (.aload_n 0, 1) := by decide +kernel
theorem dX11_playInThought_1 : decode cX11_playInThought 1 = .ok (.getfield 101, 3) := by decide +kernel
theorem dX11_playInThought_4 : decode cX11_playInThought 4 = .ok (.aload_n 0, 1) := by decide +kernel
theorem dX11_playInThought_5 : decode cX11_playInThought 5 = .ok (.getfield 97, 3) := by decide +kernel
theorem dX11_playInThought_8 : decode cX11_playInThought 8 = .ok (.invokevirtual 245, 3) := by decide +kernel
theorem dX11_playInThought_11 : decode cX11_playInThought 11 = .ok (.aload_n 0, 1) := by decide +kernel
theorem dX11_playInThought_12 : decode cX11_playInThought 12 = .ok (.aload_n 0, 1) := by decide +kernel
theorem dX11_playInThought_13 : decode cX11_playInThought 13 = .ok (.getfield 101, 3) := by decide +kernel
theorem dX11_playInThought_16 : decode cX11_playInThought 16 = .ok (.aload_n 0, 1) := by decide +kernel
theorem dX11_playInThought_17 : decode cX11_playInThought 17 = .ok (.iload_n 1, 1) := by decide +kernel
theorem dX11_playInThought_18 : decode cX11_playInThought 18 = .ok (.invokevirtual 196, 3) := by decide +kernel
theorem dX11_playInThought_21 : decode cX11_playInThought 21 = .ok (.invokevirtual 200, 3) := by decide +kernel
theorem dX11_playInThought_24 : decode cX11_playInThought 24 = .ok (.ireturn, 1) := by decide +kernel
theorem dX11_playOut_0 : decode cX11_playOut 0 = .ok (.aload_n 0, 1) := by decide +kernel
theorem dX11_playOut_1 : decode cX11_playOut 1 = .ok (.iconst 0, 1) := by decide +kernel
theorem dX11_playOut_2 : decode cX11_playOut 2 = .ok (.putfield 60, 3) := by decide +kernel
theorem dX11_playOut_5 : decode cX11_playOut 5 = .ok (.aload_n 0, 1) := by decide +kernel
theorem dX11_playOut_6 : decode cX11_playOut 6 = .ok (.ldc2_w 63, 3) := by decide +kernel
theorem dX11_playOut_9 : decode cX11_playOut 9 = .ok (.putfield 65, 3) := by decide +kernel
theorem dX11_playOut_12 : decode cX11_playOut 12 = .ok (.aload_n 0, 1) := by decide +kernel
theorem dX11_playOut_13 : decode cX11_playOut 13 = .ok (.iconst (-1), 1) := by decide +kernel
theorem dX11_playOut_14 : decode cX11_playOut 14 = .ok (.putfield 69, 3) := by decide +kernel
theorem dX11_playOut_17 : decode cX11_playOut 17 = .ok (.aload_n 2, 1) := by decide +kernel
theorem dX11_playOut_18 : decode cX11_playOut 18 = .ok (.ifnonnull 5, 3) := by decide +kernel
theorem dX11_playOut_21 : decode cX11_playOut 21 = .ok (.iconst (-1), 1) := by decide +kernel
theorem dX11_playOut_22 : decode cX11_playOut 22 = .ok (.ireturn, 1) := by decide +kernel
theorem dX11_playOut_23 : decode cX11_playOut 23 = .ok (.iconst 0, 1) := by decide +kernel
theorem dX11_playOut_24 : decode cX11_playOut 24 = .ok (.istore_n 3, 1) := by decide +kernel
theorem dX11_playOut_25 : decode cX11_playOut 25 = .ok (.iload_n 3, 1) := by decide +kernel
theorem dX11_playOut_26 : decode cX11_playOut 26 = .ok (.aload_n 2, 1) := by decide +kernel
theorem dX11_playOut_27 : decode cX11_playOut 27 = .ok (.getfield 225, 3) := by decide +kernel
theorem dX11_playOut_30 : decode cX11_playOut 30 = .ok (.if_icmp .ge 157, 3) := by decide +kernel
theorem dX11_playOut_33 : decode cX11_playOut 33 = .ok (.iload_n 3, 1) := by decide +kernel
theorem dX11_playOut_34 : decode cX11_playOut 34 = .ok (.aload_n 0, 1) := by decide +kernel
theorem dX11_playOut_35 : decode cX11_playOut 35 = .ok (.getfield 57, 3) := by decide +kernel
theorem dX11_playOut_38 : decode cX11_playOut 38 = .ok (.arraylength, 1) := by decide +kernel
theorem dX11_playOut_39 : decode cX11_playOut 39 = .ok (.if_icmp .ge 148, 3) := by decide +kernel
theorem dX11_playOut_42 : decode cX11_playOut 42 = .ok (.aload_n 0, 1) := by decide +kernel
theorem dX11_playOut_43 : decode cX11_playOut 43 = .ok (.aload_n 2, 1) := by decide +kernel
theorem dX11_playOut_44 : decode cX11_playOut 44 = .ok (.iload_n 3, 1) := by decide +kernel
theorem dX11_playOut_45 : decode cX11_playOut 45 = .ok (.invokevirtual 277, 3) := by decide +kernel
theorem dX11_playOut_48 : decode cX11_playOut 48 = .ok (.invokevirtual 129, 3) := by decide +kernel
theorem dX11_playOut_51 : decode cX11_playOut 51 = .ok (.astore 4, 2) := by decide +kernel
theorem dX11_playOut_53 : decode cX11_playOut 53 = .ok (.aload 4, 2) := by decide +kernel
theorem dX11_playOut_55 : decode cX11_playOut 55 = .ok (.ifnonnull 5, 3) := by decide +kernel
theorem dX11_playOut_58 : decode cX11_playOut 58 = .ok (.iconst (-1), 1) := by decide +kernel
theorem dX11_playOut_59 : decode cX11_playOut 59 = .ok (.ireturn, 1) := by decide +kernel
theorem dX11_playOut_60 : decode cX11_playOut 60 = .ok (.iload_n 3, 1) := by decide +kernel
theorem dX11_playOut_61 : decode cX11_playOut 61 = .ok (.iconst 2, 1) := by decide +kernel
theorem dX11_playOut_62 : decode cX11_playOut 62 = .ok (.irem, 1) := by decide +kernel
theorem dX11_playOut_63 : decode cX11_playOut 63 = .ok (.istore 5, 2) := by decide +kernel
theorem dX11_playOut_65 : decode cX11_playOut 65 = .ok (.aload_n 1, 1) := by decide +kernel
theorem dX11_playOut_66 : decode cX11_playOut 66 = .ok (.iload 5, 2) := by decide +kernel
theorem dX11_playOut_68 : decode cX11_playOut 68 = .ok (.invokevirtual 119, 3) := by decide +kernel
theorem dX11_playOut_71 : decode cX11_playOut 71 = .ok (.astore 6, 2) := by decide +kernel
theorem dX11_playOut_73 : decode cX11_playOut 73 = .ok (.aload 6, 2) := by decide +kernel
theorem dX11_playOut_75 : decode cX11_playOut 75 = .ok (.getfield 150, 3) := by decide +kernel
theorem dX11_playOut_78 : decode cX11_playOut 78 = .ok (.istore 7, 2) := by decide +kernel
theorem dX11_playOut_80 : decode cX11_playOut 80 = .ok (.aload_n 1, 1) := by decide +kernel
theorem dX11_playOut_81 : decode cX11_playOut 81 = .ok (.iconst 1, 1) := by decide +kernel
theorem dX11_playOut_82 : decode cX11_playOut 82 = .ok (.iload 5, 2) := by decide +kernel
theorem dX11_playOut_84 : decode cX11_playOut 84 = .ok (.isub, 1) := by decide +kernel
theorem dX11_playOut_85 : decode cX11_playOut 85 = .ok (.invokevirtual 119, 3) := by decide +kernel
theorem dX11_playOut_88 : decode cX11_playOut 88 = .ok (.getfield 150, 3) := by decide +kernel
theorem dX11_playOut_91 : decode cX11_playOut 91 = .ok (.istore 8, 2) := by decide +kernel
theorem dX11_playOut_93 : decode cX11_playOut 93 = .ok (.aload_n 0, 1) := by decide +kernel
theorem dX11_playOut_94 : decode cX11_playOut 94 = .ok (.getfield 57, 3) := by decide +kernel
theorem dX11_playOut_97 : decode cX11_playOut 97 = .ok (.iload_n 3, 1) := by decide +kernel
theorem dX11_playOut_98 : decode cX11_playOut 98 = .ok (.aload 4, 2) := by decide +kernel
theorem dX11_playOut_100 : decode cX11_playOut 100 = .ok (.iload 7, 2) := by decide +kernel
theorem dX11_playOut_102 : decode cX11_playOut 102 = .ok (.invokevirtual 153, 3) := by decide +kernel
theorem dX11_playOut_105 : decode cX11_playOut 105 = .ok (.iastore, 1) := by decide +kernel
theorem dX11_playOut_106 : decode cX11_playOut 106 = .ok (.aload_n 0, 1) := by decide +kernel
theorem dX11_playOut_107 : decode cX11_playOut 107 = .ok (.aload_n 0, 1) := by decide +kernel
theorem dX11_playOut_108 : decode cX11_playOut 108 = .ok (.getfield 65, 3) := by decide +kernel
theorem dX11_playOut_111 : decode cX11_playOut 111 = .ok (.bipush 100, 2) := by decide +kernel
theorem dX11_playOut_113 : decode cX11_playOut 113 = .ok (.aload_n 1, 1) := by decide +kernel
theorem dX11_playOut_114 : decode cX11_playOut 114 = .ok (.aload 6, 2) := by decide +kernel
theorem dX11_playOut_116 : decode cX11_playOut 116 = .ok (.aload 4, 2) := by decide +kernel
theorem dX11_playOut_118 : decode cX11_playOut 118 = .ok (.invokevirtual 160, 3) := by decide +kernel
theorem dX11_playOut_121 : decode cX11_playOut 121 = .ok (.isub, 1) := by decide +kernel
theorem dX11_playOut_122 : decode cX11_playOut 122 = .ok (.i2l, 1) := by decide +kernel
theorem dX11_playOut_123 : decode cX11_playOut 123 = .ok (.lmul, 1) := by decide +kernel
theorem dX11_playOut_124 : decode cX11_playOut 124 = .ok (.ldc2_w 321, 3) := by decide +kernel
theorem dX11_playOut_127 : decode cX11_playOut 127 = .ok (.ldiv, 1) := by decide +kernel
theorem dX11_playOut_128 : decode cX11_playOut 128 = .ok (.putfield 65, 3) := by decide +kernel
theorem dX11_playOut_131 : decode cX11_playOut 131 = .ok (.aload_n 0, 1) := by decide +kernel
theorem dX11_playOut_132 : decode cX11_playOut 132 = .ok (.iload_n 3, 1) := by decide +kernel
theorem dX11_playOut_133 : decode cX11_playOut 133 = .ok (.iconst 1, 1) := by decide +kernel
theorem dX11_playOut_134 : decode cX11_playOut 134 = .ok (.iadd, 1) := by decide +kernel
theorem dX11_playOut_135 : decode cX11_playOut 135 = .ok (.putfield 60, 3) := by decide +kernel
theorem dX11_playOut_138 : decode cX11_playOut 138 = .ok (.aload_n 1, 1) := by decide +kernel
theorem dX11_playOut_139 : decode cX11_playOut 139 = .ok (.iload 5, 2) := by decide +kernel
theorem dX11_playOut_141 : decode cX11_playOut 141 = .ok (.aload 4, 2) := by decide +kernel
theorem dX11_playOut_143 : decode cX11_playOut 143 = .ok (.invokevirtual 250, 3) := by decide +kernel
theorem dX11_playOut_146 : decode cX11_playOut 146 = .ok (.ifCond .eq 6, 3) := by decide +kernel
theorem dX11_playOut_149 : decode cX11_playOut 149 = .ok (.iload 5, 2) := by decide +kernel
theorem dX11_playOut_151 : decode cX11_playOut 151 = .ok (.ireturn, 1) := by decide +kernel
theorem dX11_playOut_152 : decode cX11_playOut 152 = .ok (.aload_n 0, 1) := by decide +kernel
theorem dX11_playOut_153 : decode cX11_playOut 153 = .ok (.getfield 69, 3) := by decide +kernel
theorem dX11_playOut_156 : decode cX11_playOut 156 = .ok (.iconst (-1), 1) := by decide +kernel
theorem dX11_playOut_157 : decode cX11_playOut 157 = .ok (.if_icmp .ne 24, 3) := by decide +kernel
theorem dX11_playOut_160 : decode cX11_playOut 160 = .ok (.iload 8, 2) := by decide +kernel
theorem dX11_playOut_162 : decode cX11_playOut 162 = .ok (.aload_n 0, 1) := by decide +kernel
theorem dX11_playOut_163 : decode cX11_playOut 163 = .ok (.getfield 57, 3) := by decide +kernel
theorem dX11_playOut_166 : decode cX11_playOut 166 = .ok (.iload_n 3, 1) := by decide +kernel
theorem dX11_playOut_167 : decode cX11_playOut 167 = .ok (.iaload, 1) := by decide +kernel
theorem dX11_playOut_168 : decode cX11_playOut 168 = .ok (.iload 7, 2) := by decide +kernel
theorem dX11_playOut_170 : decode cX11_playOut 170 = .ok (.invokestatic 323, 3) := by decide +kernel
theorem dX11_playOut_173 : decode cX11_playOut 173 = .ok (.ifCond .eq 8, 3) := by decide +kernel
theorem dX11_playOut_176 : decode cX11_playOut 176 = .ok (.aload_n 0, 1) := by decide +kernel
theorem dX11_playOut_177 : decode cX11_playOut 177 = .ok (.iload_n 3, 1) := by decide +kernel
theorem dX11_playOut_178 : decode cX11_playOut 178 = .ok (.putfield 69, 3) := by decide +kernel
theorem dX11_playOut_181 : decode cX11_playOut 181 = .ok (.iinc 3 1, 3) := by decide +kernel
theorem dX11_playOut_184 : decode cX11_playOut 184 = .ok (.goto (-159), 3) := by decide +kernel
theorem dX11_playOut_187 : decode cX11_playOut 187 = .ok (.iconst (-1), 1) := by decide +kernel
theorem dX11_playOut_188 : decode cX11_playOut 188 = .ok (.ireturn, 1) := by decide +kernel
theorem dX11_valueFor_0 : decode cX11_valueFor 0 = .ok (.bipush (-2), 2) := by decide +kernel
theorem dX11_valueFor_2 : decode cX11_valueFor 2 = .ok (.istore 5, 2) := by decide +kernel
theorem dX11_valueFor_4 : decode cX11_valueFor 4 = .ok (.iconst (-1), 1) := by decide +kernel
theorem dX11_valueFor_5 : decode cX11_valueFor 5 = .ok (.istore 6, 2) := by decide +kernel
theorem dX11_valueFor_7 : decode cX11_valueFor 7 = .ok (.iconst 0, 1) := by decide +kernel
theorem dX11_valueFor_8 : decode cX11_valueFor 8 = .ok (.istore 7, 2) := by decide +kernel
theorem dX11_valueFor_10 : decode cX11_valueFor 10 = .ok (.iload_n 3, 1) := by decide +kernel
theorem dX11_valueFor_11 : decode cX11_valueFor 11 = .ok (.ifCond .le 57, 3) := by decide +kernel
theorem dX11_valueFor_14 : decode cX11_valueFor 14 = .ok (.iload 7, 2) := by decide +kernel
theorem dX11_valueFor_16 : decode cX11_valueFor 16 = .ok (.aload_n 0, 1) := by decide +kernel
theorem dX11_valueFor_17 : decode cX11_valueFor 17 = .ok (.getfield 32, 3) := by decide +kernel
theorem dX11_valueFor_20 : decode cX11_valueFor 20 = .ok (.if_icmp .ge 48, 3) := by decide +kernel
theorem dX11_valueFor_23 : decode cX11_valueFor 23 = .ok (.iload 5, 2) := by decide +kernel
theorem dX11_valueFor_25 : decode cX11_valueFor 25 = .ok (.iload 4, 2) := by decide +kernel
theorem dX11_valueFor_27 : decode cX11_valueFor 27 = .ok (.if_icmp .ge 41, 3) := by decide +kernel
theorem dX11_valueFor_30 : decode cX11_valueFor 30 = .ok (.aload_n 0, 1) := by decide +kernel
theorem dX11_valueFor_31 : decode cX11_valueFor 31 = .ok (.aload_n 1, 1) := by decide +kernel
theorem dX11_valueFor_32 : decode cX11_valueFor 32 = .ok (.iload_n 2, 1) := by decide +kernel
theorem dX11_valueFor_33 : decode cX11_valueFor 33 = .ok (.aload_n 0, 1) := by decide +kernel
theorem dX11_valueFor_34 : decode cX11_valueFor 34 = .ok (.iload 7, 2) := by decide +kernel
theorem dX11_valueFor_36 : decode cX11_valueFor 36 = .ok (.invokevirtual 129, 3) := by decide +kernel
theorem dX11_valueFor_39 : decode cX11_valueFor 39 = .ok (.iload_n 3, 1) := by decide +kernel
theorem dX11_valueFor_40 : decode cX11_valueFor 40 = .ok (.iload 5, 2) := by decide +kernel
theorem dX11_valueFor_42 : decode cX11_valueFor 42 = .ok (.invokevirtual 327, 3) := by decide +kernel
theorem dX11_valueFor_45 : decode cX11_valueFor 45 = .ok (.istore 8, 2) := by decide +kernel
theorem dX11_valueFor_47 : decode cX11_valueFor 47 = .ok (.iload 8, 2) := by decide +kernel
theorem dX11_valueFor_49 : decode cX11_valueFor 49 = .ok (.iload 5, 2) := by decide +kernel
theorem dX11_valueFor_51 : decode cX11_valueFor 51 = .ok (.if_icmp .le 11, 3) := by decide +kernel
theorem dX11_valueFor_54 : decode cX11_valueFor 54 = .ok (.iload 8, 2) := by decide +kernel
theorem dX11_valueFor_56 : decode cX11_valueFor 56 = .ok (.istore 5, 2) := by decide +kernel
theorem dX11_valueFor_58 : decode cX11_valueFor 58 = .ok (.iload 7, 2) := by decide +kernel
theorem dX11_valueFor_60 : decode cX11_valueFor 60 = .ok (.istore 6, 2) := by decide +kernel
theorem dX11_valueFor_62 : decode cX11_valueFor 62 = .ok (.iinc 7 1, 3) := by decide +kernel
theorem dX11_valueFor_65 : decode cX11_valueFor 65 = .ok (.goto (-55), 3) := by decide +kernel
theorem dX11_valueFor_68 : decode cX11_valueFor 68 = .ok (.aload_n 0, 1) := by decide +kernel
theorem dX11_valueFor_69 : decode cX11_valueFor 69 = .ok (.iload 6, 2) := by decide +kernel
theorem dX11_valueFor_71 : decode cX11_valueFor 71 = .ok (.putfield 72, 3) := by decide +kernel
theorem dX11_valueFor_74 : decode cX11_valueFor 74 = .ok (.iload 6, 2) := by decide +kernel
theorem dX11_valueFor_76 : decode cX11_valueFor 76 = .ok (.iconst (-1), 1) := by decide +kernel
theorem dX11_valueFor_77 : decode cX11_valueFor 77 = .ok (.if_icmp .ne 7, 3) := by decide +kernel
theorem dX11_valueFor_80 : decode cX11_valueFor 80 = .ok (.iconst 0, 1) := by decide +kernel
theorem dX11_valueFor_81 : decode cX11_valueFor 81 = .ok (.goto 5, 3) := by decide +kernel
theorem dX11_valueFor_84 : decode cX11_valueFor 84 = .ok (.iload 5, 2) := by decide +kernel
theorem dX11_valueFor_86 : decode cX11_valueFor 86 = .ok (.ireturn, 1) := by decide +kernel
theorem dX11_valueBy_0 : decode cX11_valueBy 0 = .ok (.aload_n 3, 1) := by decide +kernel
theorem dX11_valueBy_1 : decode cX11_valueBy 1 = .ok (.ifnull 19, 3) := by decide +kernel
theorem dX11_valueBy_4 : decode cX11_valueBy 4 = .ok (.iload 4, 2) := by decide +kernel
theorem dX11_valueBy_6 : decode cX11_valueBy 6 = .ok (.iconst 1, 1) := by decide +kernel
theorem dX11_valueBy_7 : decode cX11_valueBy 7 = .ok (.if_icmp .lt 13, 3) := by decide +kernel
theorem dX11_valueBy_10 : decode cX11_valueBy 10 = .ok (.iload 4, 2) := by decide +kernel
theorem dX11_valueBy_12 : decode cX11_valueBy 12 = .ok (.aload_n 0, 1) := by decide +kernel
theorem dX11_valueBy_13 : decode cX11_valueBy 13 = .ok (.getfield 37, 3) := by decide +kernel
theorem dX11_valueBy_16 : decode cX11_valueBy 16 = .ok (.arraylength, 1) := by decide +kernel
theorem dX11_valueBy_17 : decode cX11_valueBy 17 = .ok (.if_icmp .lt 5, 3) := by decide +kernel
theorem dX11_valueBy_20 : decode cX11_valueBy 20 = .ok (.iconst 0, 1) := by decide +kernel
theorem dX11_valueBy_21 : decode cX11_valueBy 21 = .ok (.ireturn, 1) := by decide +kernel
theorem dX11_valueBy_22 : decode cX11_valueBy 22 = .ok (.iload 4, 2) := by decide +kernel
theorem dX11_valueBy_24 : decode cX11_valueBy 24 = .ok (.iconst 1, 1) := by decide +kernel
theorem dX11_valueBy_25 : decode cX11_valueBy 25 = .ok (.if_icmp .ne 18, 3) := by decide +kernel
theorem dX11_valueBy_28 : decode cX11_valueBy 28 = .ok (.aload_n 1, 1) := by decide +kernel
theorem dX11_valueBy_29 : decode cX11_valueBy 29 = .ok (.iload_n 2, 1) := by decide +kernel
theorem dX11_valueBy_30 : decode cX11_valueBy 30 = .ok (.aload_n 3, 1) := by decide +kernel
theorem dX11_valueBy_31 : decode cX11_valueBy 31 = .ok (.invokevirtual 217, 3) := by decide +kernel
theorem dX11_valueBy_34 : decode cX11_valueBy 34 = .ok (.ifCond .eq 7, 3) := by decide +kernel
theorem dX11_valueBy_37 : decode cX11_valueBy 37 = .ok (.iconst 1, 1) := by decide +kernel
theorem dX11_valueBy_38 : decode cX11_valueBy 38 = .ok (.goto 4, 3) := by decide +kernel
theorem dX11_valueBy_41 : decode cX11_valueBy 41 = .ok (.iconst 0, 1) := by decide +kernel
theorem dX11_valueBy_42 : decode cX11_valueBy 42 = .ok (.ireturn, 1) := by decide +kernel
theorem dX11_valueBy_43 : decode cX11_valueBy 43 = .ok (.aload_n 0, 1) := by decide +kernel
theorem dX11_valueBy_44 : decode cX11_valueBy 44 = .ok (.getfield 37, 3) := by decide +kernel
theorem dX11_valueBy_47 : decode cX11_valueBy 47 = .ok (.iload 4, 2) := by decide +kernel
theorem dX11_valueBy_49 : decode cX11_valueBy 49 = .ok (.aaload, 1) := by decide +kernel
theorem dX11_valueBy_50 : decode cX11_valueBy 50 = .ok (.astore 6, 2) := by decide +kernel
theorem dX11_valueBy_52 : decode cX11_valueBy 52 = .ok (.aload 6, 2) := by decide +kernel
theorem dX11_valueBy_54 : decode cX11_valueBy 54 = .ok (.aload_n 1, 1) := by decide +kernel
theorem dX11_valueBy_55 : decode cX11_valueBy 55 = .ok (.invokevirtual 245, 3) := by decide +kernel
theorem dX11_valueBy_58 : decode cX11_valueBy 58 = .ok (.aload 6, 2) := by decide +kernel
theorem dX11_valueBy_60 : decode cX11_valueBy 60 = .ok (.iload_n 2, 1) := by decide +kernel
theorem dX11_valueBy_61 : decode cX11_valueBy 61 = .ok (.aload_n 3, 1) := by decide +kernel
theorem dX11_valueBy_62 : decode cX11_valueBy 62 = .ok (.invokevirtual 250, 3) := by decide +kernel
theorem dX11_valueBy_65 : decode cX11_valueBy 65 = .ok (.ifCond .eq 5, 3) := by decide +kernel
theorem dX11_valueBy_68 : decode cX11_valueBy 68 = .ok (.iconst 1, 1) := by decide +kernel
theorem dX11_valueBy_69 : decode cX11_valueBy 69 = .ok (.ireturn, 1) := by decide +kernel
theorem dX11_valueBy_70 : decode cX11_valueBy 70 = .ok (.aload_n 0, 1) := by decide +kernel
theorem dX11_valueBy_71 : decode cX11_valueBy 71 = .ok (.aload 6, 2) := by decide +kernel
theorem dX11_valueBy_73 : decode cX11_valueBy 73 = .ok (.iconst 1, 1) := by decide +kernel
theorem dX11_valueBy_74 : decode cX11_valueBy 74 = .ok (.iload_n 2, 1) := by decide +kernel
theorem dX11_valueBy_75 : decode cX11_valueBy 75 = .ok (.isub, 1) := by decide +kernel
theorem dX11_valueBy_76 : decode cX11_valueBy 76 = .ok (.iload 4, 2) := by decide +kernel
theorem dX11_valueBy_78 : decode cX11_valueBy 78 = .ok (.iconst 1, 1) := by decide +kernel
theorem dX11_valueBy_79 : decode cX11_valueBy 79 = .ok (.isub, 1) := by decide +kernel
theorem dX11_valueBy_80 : decode cX11_valueBy 80 = .ok (.iconst 1, 1) := by decide +kernel
theorem dX11_valueBy_81 : decode cX11_valueBy 81 = .ok (.iload 5, 2) := by decide +kernel
theorem dX11_valueBy_83 : decode cX11_valueBy 83 = .ok (.ineg, 1) := by decide +kernel
theorem dX11_valueBy_84 : decode cX11_valueBy 84 = .ok (.invokestatic 313, 3) := by decide +kernel
theorem dX11_valueBy_87 : decode cX11_valueBy 87 = .ok (.invokevirtual 206, 3) := by decide +kernel
theorem dX11_valueBy_90 : decode cX11_valueBy 90 = .ok (.ineg, 1) := by decide +kernel
theorem dX11_valueBy_91 : decode cX11_valueBy 91 = .ok (.ireturn, 1) := by decide +kernel
theorem dX11_badness_0 : decode cX11_badness 0 = .ok (.aload_n 0, 1) := by decide +kernel
theorem dX11_badness_1 : decode cX11_badness 1 = .ok (.getfield 97, 3) := by decide +kernel
theorem dX11_badness_4 : decode cX11_badness 4 = .ok (.iload_n 1, 1) := by decide +kernel
theorem dX11_badness_5 : decode cX11_badness 5 = .ok (.invokevirtual 119, 3) := by decide +kernel
theorem dX11_badness_8 : decode cX11_badness 8 = .ok (.astore_n 3, 1) := by decide +kernel
theorem dX11_badness_9 : decode cX11_badness 9 = .ok (.aload_n 0, 1) := by decide +kernel
theorem dX11_badness_10 : decode cX11_badness 10 = .ok (.getfield 97, 3) := by decide +kernel
theorem dX11_badness_13 : decode cX11_badness 13 = .ok (.iconst 1, 1) := by decide +kernel
theorem dX11_badness_14 : decode cX11_badness 14 = .ok (.iload_n 1, 1) := by decide +kernel
theorem dX11_badness_15 : decode cX11_badness 15 = .ok (.isub, 1) := by decide +kernel
theorem dX11_badness_16 : decode cX11_badness 16 = .ok (.invokevirtual 119, 3) := by decide +kernel
theorem dX11_badness_19 : decode cX11_badness 19 = .ok (.astore 4, 2) := by decide +kernel
theorem dX11_badness_21 : decode cX11_badness 21 = .ok (.iconst 0, 1) := by decide +kernel
theorem dX11_badness_22 : decode cX11_badness 22 = .ok (.istore 5, 2) := by decide +kernel
theorem dX11_badness_24 : decode cX11_badness 24 = .ok (.iconst 0, 1) := by decide +kernel
theorem dX11_badness_25 : decode cX11_badness 25 = .ok (.istore 6, 2) := by decide +kernel
theorem dX11_badness_27 : decode cX11_badness 27 = .ok (.iload 6, 2) := by decide +kernel
theorem dX11_badness_29 : decode cX11_badness 29 = .ok (.aload_n 0, 1) := by decide +kernel
theorem dX11_badness_30 : decode cX11_badness 30 = .ok (.getfield 32, 3) := by decide +kernel
theorem dX11_badness_33 : decode cX11_badness 33 = .ok (.if_icmp .ge 78, 3) := by decide +kernel
theorem dX11_badness_36 : decode cX11_badness 36 = .ok (.aload_n 0, 1) := by decide +kernel
theorem dX11_badness_37 : decode cX11_badness 37 = .ok (.iload 6, 2) := by decide +kernel
theorem dX11_badness_39 : decode cX11_badness 39 = .ok (.invokevirtual 129, 3) := by decide +kernel
theorem dX11_badness_42 : decode cX11_badness 42 = .ok (.astore 7, 2) := by decide +kernel
theorem dX11_badness_44 : decode cX11_badness 44 = .ok (.aload 7, 2) := by decide +kernel
theorem dX11_badness_46 : decode cX11_badness 46 = .ok (.ifnull 59, 3) := by decide +kernel
theorem dX11_badness_49 : decode cX11_badness 49 = .ok (.aload 7, 2) := by decide +kernel
theorem dX11_badness_51 : decode cX11_badness 51 = .ok (.aload 4, 2) := by decide +kernel
theorem dX11_badness_53 : decode cX11_badness 53 = .ok (.getfield 150, 3) := by decide +kernel
theorem dX11_badness_56 : decode cX11_badness 56 = .ok (.invokevirtual 153, 3) := by decide +kernel
theorem dX11_badness_59 : decode cX11_badness 59 = .ok (.istore 8, 2) := by decide +kernel
theorem dX11_badness_61 : decode cX11_badness 61 = .ok (.aload_n 0, 1) := by decide +kernel
theorem dX11_badness_62 : decode cX11_badness 62 = .ok (.getfield 97, 3) := by decide +kernel
theorem dX11_badness_65 : decode cX11_badness 65 = .ok (.aload_n 3, 1) := by decide +kernel
theorem dX11_badness_66 : decode cX11_badness 66 = .ok (.iload_n 2, 1) := by decide +kernel
theorem dX11_badness_67 : decode cX11_badness 67 = .ok (.iload 8, 2) := by decide +kernel
theorem dX11_badness_69 : decode cX11_badness 69 = .ok (.invokevirtual 166, 3) := by decide +kernel
theorem dX11_badness_72 : decode cX11_badness 72 = .ok (.aload_n 0, 1) := by decide +kernel
theorem dX11_badness_73 : decode cX11_badness 73 = .ok (.getfield 97, 3) := by decide +kernel
theorem dX11_badness_76 : decode cX11_badness 76 = .ok (.aload 4, 2) := by decide +kernel
theorem dX11_badness_78 : decode cX11_badness 78 = .ok (.aload 7, 2) := by decide +kernel
theorem dX11_badness_80 : decode cX11_badness 80 = .ok (.invokevirtual 156, 3) := by decide +kernel
theorem dX11_badness_83 : decode cX11_badness 83 = .ok (.isub, 1) := by decide +kernel
theorem dX11_badness_84 : decode cX11_badness 84 = .ok (.istore 9, 2) := by decide +kernel
theorem dX11_badness_86 : decode cX11_badness 86 = .ok (.iload 6, 2) := by decide +kernel
theorem dX11_badness_88 : decode cX11_badness 88 = .ok (.ifCond .ne 8, 3) := by decide +kernel
theorem dX11_badness_91 : decode cX11_badness 91 = .ok (.iload 9, 2) := by decide +kernel
theorem dX11_badness_93 : decode cX11_badness 93 = .ok (.goto 10, 3) := by decide +kernel
theorem dX11_badness_96 : decode cX11_badness 96 = .ok (.iload 5, 2) := by decide +kernel
theorem dX11_badness_98 : decode cX11_badness 98 = .ok (.iload 9, 2) := by decide +kernel
theorem dX11_badness_100 : decode cX11_badness 100 = .ok (.invokestatic 310, 3) := by decide +kernel
theorem dX11_badness_103 : decode cX11_badness 103 = .ok (.istore 5, 2) := by decide +kernel
theorem dX11_badness_105 : decode cX11_badness 105 = .ok (.iinc 6 1, 3) := by decide +kernel
theorem dX11_badness_108 : decode cX11_badness 108 = .ok (.goto (-81), 3) := by decide +kernel
theorem dX11_badness_111 : decode cX11_badness 111 = .ok (.iload 5, 2) := by decide +kernel
theorem dX11_badness_113 : decode cX11_badness 113 = .ok (.ireturn, 1) := by decide +kernel
theorem dX11_rowsBy_0 : decode cX11_rowsBy 0 = .ok (.iload_n 3, 1) := by decide +kernel
theorem dX11_rowsBy_1 : decode cX11_rowsBy 1 = .ok (.aload_n 2, 1) := by decide +kernel
theorem dX11_rowsBy_2 : decode cX11_rowsBy 2 = .ok (.getfield 225, 3) := by decide +kernel
theorem dX11_rowsBy_5 : decode cX11_rowsBy 5 = .ok (.if_icmp .ge 12, 3) := by decide +kernel
theorem dX11_rowsBy_8 : decode cX11_rowsBy 8 = .ok (.iload_n 3, 1) := by decide +kernel
theorem dX11_rowsBy_9 : decode cX11_rowsBy 9 = .ok (.aload_n 0, 1) := by decide +kernel
theorem dX11_rowsBy_10 : decode cX11_rowsBy 10 = .ok (.getfield 37, 3) := by decide +kernel
theorem dX11_rowsBy_13 : decode cX11_rowsBy 13 = .ok (.arraylength, 1) := by decide +kernel
theorem dX11_rowsBy_14 : decode cX11_rowsBy 14 = .ok (.if_icmp .lt 19, 3) := by decide +kernel
theorem dX11_rowsBy_17 : decode cX11_rowsBy 17 = .ok (.aload_n 0, 1) := by decide +kernel
theorem dX11_rowsBy_18 : decode cX11_rowsBy 18 = .ok (.getfield 75, 3) := by decide +kernel
theorem dX11_rowsBy_21 : decode cX11_rowsBy 21 = .ok (.iconst (-1), 1) := by decide +kernel
theorem dX11_rowsBy_22 : decode cX11_rowsBy 22 = .ok (.if_icmp .ne 9, 3) := by decide +kernel
theorem dX11_rowsBy_25 : decode cX11_rowsBy 25 = .ok (.aload_n 0, 1) := by decide +kernel
theorem dX11_rowsBy_26 : decode cX11_rowsBy 26 = .ok (.iload 4, 2) := by decide +kernel
theorem dX11_rowsBy_28 : decode cX11_rowsBy 28 = .ok (.putfield 75, 3) := by decide +kernel
theorem dX11_rowsBy_31 : decode cX11_rowsBy 31 = .ok (.iconst 1, 1) := by decide +kernel
theorem dX11_rowsBy_32 : decode cX11_rowsBy 32 = .ok (.ireturn, 1) := by decide +kernel
theorem dX11_rowsBy_33 : decode cX11_rowsBy 33 = .ok (.iload_n 3, 1) := by decide +kernel
theorem dX11_rowsBy_34 : decode cX11_rowsBy 34 = .ok (.iconst 2, 1) := by decide +kernel
theorem dX11_rowsBy_35 : decode cX11_rowsBy 35 = .ok (.irem, 1) := by decide +kernel
theorem dX11_rowsBy_36 : decode cX11_rowsBy 36 = .ok (.istore 5, 2) := by decide +kernel
theorem dX11_rowsBy_38 : decode cX11_rowsBy 38 = .ok (.iload_n 3, 1) := by decide +kernel
theorem dX11_rowsBy_39 : decode cX11_rowsBy 39 = .ok (.aload_n 2, 1) := by decide +kernel
theorem dX11_rowsBy_40 : decode cX11_rowsBy 40 = .ok (.getfield 225, 3) := by decide +kernel
theorem dX11_rowsBy_43 : decode cX11_rowsBy 43 = .ok (.iconst 1, 1) := by decide +kernel
theorem dX11_rowsBy_44 : decode cX11_rowsBy 44 = .ok (.isub, 1) := by decide +kernel
theorem dX11_rowsBy_45 : decode cX11_rowsBy 45 = .ok (.if_icmp .ne 7, 3) := by decide +kernel
theorem dX11_rowsBy_48 : decode cX11_rowsBy 48 = .ok (.iconst 1, 1) := by decide +kernel
theorem dX11_rowsBy_49 : decode cX11_rowsBy 49 = .ok (.goto 4, 3) := by decide +kernel
theorem dX11_rowsBy_52 : decode cX11_rowsBy 52 = .ok (.iconst 0, 1) := by decide +kernel
theorem dX11_rowsBy_53 : decode cX11_rowsBy 53 = .ok (.istore 6, 2) := by decide +kernel
theorem dX11_rowsBy_55 : decode cX11_rowsBy 55 = .ok (.aload_n 0, 1) := by decide +kernel
theorem dX11_rowsBy_56 : decode cX11_rowsBy 56 = .ok (.getfield 37, 3) := by decide +kernel
theorem dX11_rowsBy_59 : decode cX11_rowsBy 59 = .ok (.iload_n 3, 1) := by decide +kernel
theorem dX11_rowsBy_60 : decode cX11_rowsBy 60 = .ok (.aaload, 1) := by decide +kernel
theorem dX11_rowsBy_61 : decode cX11_rowsBy 61 = .ok (.astore 7, 2) := by decide +kernel
theorem dX11_rowsBy_63 : decode cX11_rowsBy 63 = .ok (.iconst 0, 1) := by decide +kernel
theorem dX11_rowsBy_64 : decode cX11_rowsBy 64 = .ok (.istore 8, 2) := by decide +kernel
theorem dX11_rowsBy_66 : decode cX11_rowsBy 66 = .ok (.iconst 0, 1) := by decide +kernel
theorem dX11_rowsBy_67 : decode cX11_rowsBy 67 = .ok (.istore 9, 2) := by decide +kernel
theorem dX11_rowsBy_69 : decode cX11_rowsBy 69 = .ok (.iload 9, 2) := by decide +kernel
theorem dX11_rowsBy_71 : decode cX11_rowsBy 71 = .ok (.aload_n 0, 1) := by decide +kernel
theorem dX11_rowsBy_72 : decode cX11_rowsBy 72 = .ok (.getfield 32, 3) := by decide +kernel
theorem dX11_rowsBy_75 : decode cX11_rowsBy 75 = .ok (.if_icmp .ge 95, 3) := by decide +kernel
theorem dX11_rowsBy_78 : decode cX11_rowsBy 78 = .ok (.aload_n 0, 1) := by decide +kernel
theorem dX11_rowsBy_79 : decode cX11_rowsBy 79 = .ok (.iload 9, 2) := by decide +kernel
theorem dX11_rowsBy_81 : decode cX11_rowsBy 81 = .ok (.invokevirtual 129, 3) := by decide +kernel
theorem dX11_rowsBy_84 : decode cX11_rowsBy 84 = .ok (.astore 10, 2) := by decide +kernel
theorem dX11_rowsBy_86 : decode cX11_rowsBy 86 = .ok (.aload 10, 2) := by decide +kernel
theorem dX11_rowsBy_88 : decode cX11_rowsBy 88 = .ok (.ifnull 76, 3) := by decide +kernel
theorem dX11_rowsBy_91 : decode cX11_rowsBy 91 = .ok (.aload 10, 2) := by decide +kernel
theorem dX11_rowsBy_93 : decode cX11_rowsBy 93 = .ok (.aload_n 1, 1) := by decide +kernel
theorem dX11_rowsBy_94 : decode cX11_rowsBy 94 = .ok (.iload 5, 2) := by decide +kernel
theorem dX11_rowsBy_96 : decode cX11_rowsBy 96 = .ok (.invokevirtual 119, 3) := by decide +kernel
theorem dX11_rowsBy_99 : decode cX11_rowsBy 99 = .ok (.getfield 150, 3) := by decide +kernel
theorem dX11_rowsBy_102 : decode cX11_rowsBy 102 = .ok (.invokevirtual 153, 3) := by decide +kernel
theorem dX11_rowsBy_105 : decode cX11_rowsBy 105 = .ok (.aload_n 2, 1) := by decide +kernel
theorem dX11_rowsBy_106 : decode cX11_rowsBy 106 = .ok (.iload_n 3, 1) := by decide +kernel
theorem dX11_rowsBy_107 : decode cX11_rowsBy 107 = .ok (.invokevirtual 277, 3) := by decide +kernel
theorem dX11_rowsBy_110 : decode cX11_rowsBy 110 = .ok (.if_icmp .eq 6, 3) := by decide +kernel
theorem dX11_rowsBy_113 : decode cX11_rowsBy 113 = .ok (.goto 51, 3) := by decide +kernel
theorem dX11_rowsBy_116 : decode cX11_rowsBy 116 = .ok (.aload 7, 2) := by decide +kernel
theorem dX11_rowsBy_118 : decode cX11_rowsBy 118 = .ok (.aload_n 1, 1) := by decide +kernel
theorem dX11_rowsBy_119 : decode cX11_rowsBy 119 = .ok (.invokevirtual 245, 3) := by decide +kernel
theorem dX11_rowsBy_122 : decode cX11_rowsBy 122 = .ok (.aload 7, 2) := by decide +kernel
theorem dX11_rowsBy_124 : decode cX11_rowsBy 124 = .ok (.iload 5, 2) := by decide +kernel
theorem dX11_rowsBy_126 : decode cX11_rowsBy 126 = .ok (.aload 10, 2) := by decide +kernel
theorem dX11_rowsBy_128 : decode cX11_rowsBy 128 = .ok (.invokevirtual 250, 3) := by decide +kernel
theorem dX11_rowsBy_131 : decode cX11_rowsBy 131 = .ok (.ifCond .eq 8, 3) := by decide +kernel
theorem dX11_rowsBy_134 : decode cX11_rowsBy 134 = .ok (.iload 6, 2) := by decide +kernel
theorem dX11_rowsBy_136 : decode cX11_rowsBy 136 = .ok (.ifCond .eq 28, 3) := by decide +kernel
theorem dX11_rowsBy_139 : decode cX11_rowsBy 139 = .ok (.iload 8, 2) := by decide +kernel
theorem dX11_rowsBy_141 : decode cX11_rowsBy 141 = .ok (.aload_n 0, 1) := by decide +kernel
theorem dX11_rowsBy_142 : decode cX11_rowsBy 142 = .ok (.aload 7, 2) := by decide +kernel
theorem dX11_rowsBy_144 : decode cX11_rowsBy 144 = .ok (.aload_n 2, 1) := by decide +kernel
theorem dX11_rowsBy_145 : decode cX11_rowsBy 145 = .ok (.iload_n 3, 1) := by decide +kernel
theorem dX11_rowsBy_146 : decode cX11_rowsBy 146 = .ok (.iconst 1, 1) := by decide +kernel
theorem dX11_rowsBy_147 : decode cX11_rowsBy 147 = .ok (.iadd, 1) := by decide +kernel
theorem dX11_rowsBy_148 : decode cX11_rowsBy 148 = .ok (.iload 4, 2) := by decide +kernel
theorem dX11_rowsBy_150 : decode cX11_rowsBy 150 = .ok (.bipush 10, 2) := by decide +kernel
theorem dX11_rowsBy_152 : decode cX11_rowsBy 152 = .ok (.imul, 1) := by decide +kernel
theorem dX11_rowsBy_153 : decode cX11_rowsBy 153 = .ok (.iload 9, 2) := by decide +kernel
theorem dX11_rowsBy_155 : decode cX11_rowsBy 155 = .ok (.iadd, 1) := by decide +kernel
theorem dX11_rowsBy_156 : decode cX11_rowsBy 156 = .ok (.iconst 1, 1) := by decide +kernel
theorem dX11_rowsBy_157 : decode cX11_rowsBy 157 = .ok (.iadd, 1) := by decide +kernel
theorem dX11_rowsBy_158 : decode cX11_rowsBy 158 = .ok (.invokevirtual 226, 3) := by decide +kernel
theorem dX11_rowsBy_161 : decode cX11_rowsBy 161 = .ok (.iadd, 1) := by decide +kernel
theorem dX11_rowsBy_162 : decode cX11_rowsBy 162 = .ok (.istore 8, 2) := by decide +kernel
theorem dX11_rowsBy_164 : decode cX11_rowsBy 164 = .ok (.iinc 9 1, 3) := by decide +kernel
theorem dX11_rowsBy_167 : decode cX11_rowsBy 167 = .ok (.goto (-98), 3) := by decide +kernel
theorem dX11_rowsBy_170 : decode cX11_rowsBy 170 = .ok (.iload 8, 2) := by decide +kernel
theorem dX11_rowsBy_172 : decode cX11_rowsBy 172 = .ok (.ireturn, 1) := by decide +kernel
theorem dX11_quicksBy_0 : decode cX11_quicksBy 0 = .ok (.iconst 0, 1) := by decide +kernel
theorem dX11_quicksBy_1 : decode cX11_quicksBy 1 = .ok (.istore 4, 2) := by decide +kernel
theorem dX11_quicksBy_3 : decode cX11_quicksBy 3 = .ok (.iconst 0, 1) := by decide +kernel
theorem dX11_quicksBy_4 : decode cX11_quicksBy 4 = .ok (.istore 5, 2) := by decide +kernel
theorem dX11_quicksBy_6 : decode cX11_quicksBy 6 = .ok (.iload 5, 2) := by decide +kernel
theorem dX11_quicksBy_8 : decode cX11_quicksBy 8 = .ok (.bipush 9, 2) := by decide +kernel
theorem dX11_quicksBy_10 : decode cX11_quicksBy 10 = .ok (.if_icmp .gt 55, 3) := by decide +kernel
theorem dX11_quicksBy_13 : decode cX11_quicksBy 13 = .ok (.aload_n 0, 1) := by decide +kernel
theorem dX11_quicksBy_14 : decode cX11_quicksBy 14 = .ok (.getfield 101, 3) := by decide +kernel
theorem dX11_quicksBy_17 : decode cX11_quicksBy 17 = .ok (.aload_n 0, 1) := by decide +kernel
theorem dX11_quicksBy_18 : decode cX11_quicksBy 18 = .ok (.getfield 97, 3) := by decide +kernel
theorem dX11_quicksBy_21 : decode cX11_quicksBy 21 = .ok (.invokevirtual 245, 3) := by decide +kernel
theorem dX11_quicksBy_24 : decode cX11_quicksBy 24 = .ok (.aload_n 0, 1) := by decide +kernel
theorem dX11_quicksBy_25 : decode cX11_quicksBy 25 = .ok (.getfield 101, 3) := by decide +kernel
theorem dX11_quicksBy_28 : decode cX11_quicksBy 28 = .ok (.iload_n 2, 1) := by decide +kernel
theorem dX11_quicksBy_29 : decode cX11_quicksBy 29 = .ok (.invokevirtual 119, 3) := by decide +kernel
theorem dX11_quicksBy_32 : decode cX11_quicksBy 32 = .ok (.iload 5, 2) := by decide +kernel
theorem dX11_quicksBy_34 : decode cX11_quicksBy 34 = .ok (.putfield 331, 3) := by decide +kernel
theorem dX11_quicksBy_37 : decode cX11_quicksBy 37 = .ok (.aload_n 0, 1) := by decide +kernel
theorem dX11_quicksBy_38 : decode cX11_quicksBy 38 = .ok (.aload_n 0, 1) := by decide +kernel
theorem dX11_quicksBy_39 : decode cX11_quicksBy 39 = .ok (.getfield 101, 3) := by decide +kernel
theorem dX11_quicksBy_42 : decode cX11_quicksBy 42 = .ok (.aload_n 1, 1) := by decide +kernel
theorem dX11_quicksBy_43 : decode cX11_quicksBy 43 = .ok (.invokevirtual 200, 3) := by decide +kernel
theorem dX11_quicksBy_46 : decode cX11_quicksBy 46 = .ok (.iload_n 3, 1) := by decide +kernel
theorem dX11_quicksBy_47 : decode cX11_quicksBy 47 = .ok (.if_icmp .ne 12, 3) := by decide +kernel
theorem dX11_quicksBy_50 : decode cX11_quicksBy 50 = .ok (.iload 4, 2) := by decide +kernel
theorem dX11_quicksBy_52 : decode cX11_quicksBy 52 = .ok (.iconst 1, 1) := by decide +kernel
theorem dX11_quicksBy_53 : decode cX11_quicksBy 53 = .ok (.iload 5, 2) := by decide +kernel
theorem dX11_quicksBy_55 : decode cX11_quicksBy 55 = .ok (.ishl, 1) := by decide +kernel
theorem dX11_quicksBy_56 : decode cX11_quicksBy 56 = .ok (.ior, 1) := by decide +kernel
theorem dX11_quicksBy_57 : decode cX11_quicksBy 57 = .ok (.istore 4, 2) := by decide +kernel
theorem dX11_quicksBy_59 : decode cX11_quicksBy 59 = .ok (.iinc 5 1, 3) := by decide +kernel
theorem dX11_quicksBy_62 : decode cX11_quicksBy 62 = .ok (.goto (-56), 3) := by decide +kernel
theorem dX11_quicksBy_65 : decode cX11_quicksBy 65 = .ok (.iload 4, 2) := by decide +kernel
theorem dX11_quicksBy_67 : decode cX11_quicksBy 67 = .ok (.ireturn, 1) := by decide +kernel
theorem dX11_rulesBy_0 : decode cX11_rulesBy 0 = .ok (.iconst 0, 1) := by decide +kernel
theorem dX11_rulesBy_1 : decode cX11_rulesBy 1 = .ok (.istore_n 3, 1) := by decide +kernel
theorem dX11_rulesBy_2 : decode cX11_rulesBy 2 = .ok (.iconst 0, 1) := by decide +kernel
theorem dX11_rulesBy_3 : decode cX11_rulesBy 3 = .ok (.istore 4, 2) := by decide +kernel
theorem dX11_rulesBy_5 : decode cX11_rulesBy 5 = .ok (.iload 4, 2) := by decide +kernel
theorem dX11_rulesBy_7 : decode cX11_rulesBy 7 = .ok (.aload_n 0, 1) := by decide +kernel
theorem dX11_rulesBy_8 : decode cX11_rulesBy 8 = .ok (.getfield 22, 3) := by decide +kernel
theorem dX11_rulesBy_11 : decode cX11_rulesBy 11 = .ok (.if_icmp .ge 64, 3) := by decide +kernel
theorem dX11_rulesBy_14 : decode cX11_rulesBy 14 = .ok (.iload 4, 2) := by decide +kernel
theorem dX11_rulesBy_16 : decode cX11_rulesBy 16 = .ok (.aload_n 0, 1) := by decide +kernel
theorem dX11_rulesBy_17 : decode cX11_rulesBy 17 = .ok (.getfield 11, 3) := by decide +kernel
theorem dX11_rulesBy_20 : decode cX11_rulesBy 20 = .ok (.arraylength, 1) := by decide +kernel
theorem dX11_rulesBy_21 : decode cX11_rulesBy 21 = .ok (.if_icmp .ge 54, 3) := by decide +kernel
theorem dX11_rulesBy_24 : decode cX11_rulesBy 24 = .ok (.aload_n 0, 1) := by decide +kernel
theorem dX11_rulesBy_25 : decode cX11_rulesBy 25 = .ok (.getfield 101, 3) := by decide +kernel
theorem dX11_rulesBy_28 : decode cX11_rulesBy 28 = .ok (.aload_n 0, 1) := by decide +kernel
theorem dX11_rulesBy_29 : decode cX11_rulesBy 29 = .ok (.getfield 97, 3) := by decide +kernel
theorem dX11_rulesBy_32 : decode cX11_rulesBy 32 = .ok (.invokevirtual 245, 3) := by decide +kernel
theorem dX11_rulesBy_35 : decode cX11_rulesBy 35 = .ok (.aload_n 0, 1) := by decide +kernel
theorem dX11_rulesBy_36 : decode cX11_rulesBy 36 = .ok (.getfield 101, 3) := by decide +kernel
theorem dX11_rulesBy_39 : decode cX11_rulesBy 39 = .ok (.aload_n 0, 1) := by decide +kernel
theorem dX11_rulesBy_40 : decode cX11_rulesBy 40 = .ok (.getfield 11, 3) := by decide +kernel
theorem dX11_rulesBy_43 : decode cX11_rulesBy 43 = .ok (.iload 4, 2) := by decide +kernel
theorem dX11_rulesBy_45 : decode cX11_rulesBy 45 = .ok (.aaload, 1) := by decide +kernel
theorem dX11_rulesBy_46 : decode cX11_rulesBy 46 = .ok (.putfield 173, 3) := by decide +kernel
theorem dX11_rulesBy_49 : decode cX11_rulesBy 49 = .ok (.aload_n 0, 1) := by decide +kernel
theorem dX11_rulesBy_50 : decode cX11_rulesBy 50 = .ok (.aload_n 0, 1) := by decide +kernel
theorem dX11_rulesBy_51 : decode cX11_rulesBy 51 = .ok (.getfield 101, 3) := by decide +kernel
theorem dX11_rulesBy_54 : decode cX11_rulesBy 54 = .ok (.aload_n 1, 1) := by decide +kernel
theorem dX11_rulesBy_55 : decode cX11_rulesBy 55 = .ok (.invokevirtual 200, 3) := by decide +kernel
theorem dX11_rulesBy_58 : decode cX11_rulesBy 58 = .ok (.iload_n 2, 1) := by decide +kernel
theorem dX11_rulesBy_59 : decode cX11_rulesBy 59 = .ok (.if_icmp .ne 10, 3) := by decide +kernel
theorem dX11_rulesBy_62 : decode cX11_rulesBy 62 = .ok (.iload_n 3, 1) := by decide +kernel
theorem dX11_rulesBy_63 : decode cX11_rulesBy 63 = .ok (.iconst 1, 1) := by decide +kernel
theorem dX11_rulesBy_64 : decode cX11_rulesBy 64 = .ok (.iload 4, 2) := by decide +kernel
theorem dX11_rulesBy_66 : decode cX11_rulesBy 66 = .ok (.ishl, 1) := by decide +kernel
theorem dX11_rulesBy_67 : decode cX11_rulesBy 67 = .ok (.ior, 1) := by decide +kernel
theorem dX11_rulesBy_68 : decode cX11_rulesBy 68 = .ok (.istore_n 3, 1) := by decide +kernel
theorem dX11_rulesBy_69 : decode cX11_rulesBy 69 = .ok (.iinc 4 1, 3) := by decide +kernel
theorem dX11_rulesBy_72 : decode cX11_rulesBy 72 = .ok (.goto (-67), 3) := by decide +kernel
theorem dX11_rulesBy_75 : decode cX11_rulesBy 75 = .ok (.iload_n 3, 1) := by decide +kernel
theorem dX11_rulesBy_76 : decode cX11_rulesBy 76 = .ok (.ireturn, 1) := by decide +kernel
theorem dX12_in_0 : decode cX12_in 0 = .ok (.lload_n 0, 1) := by decide +kernel
theorem dX12_in_1 : decode cX12_in 1 = .ok (.lload_n 2, 1) := by decide +kernel
theorem dX12_in_2 : decode cX12_in 2 = .ok (.lcmp, 1) := by decide +kernel
theorem dX12_in_3 : decode cX12_in 3 = .ok (.ifCond .lt 14, 3) := by decide +kernel
theorem dX12_in_6 : decode cX12_in 6 = .ok (.lload_n 0, 1) := by decide +kernel
theorem dX12_in_7 : decode cX12_in 7 = .ok (.lload 4, 2) := by decide +kernel
theorem dX12_in_9 : decode cX12_in 9 = .ok (.lcmp, 1) := by decide +kernel
theorem dX12_in_10 : decode cX12_in 10 = .ok (.ifCond .gt 7, 3) := by decide +kernel
theorem dX12_in_13 : decode cX12_in 13 = .ok (.iconst 1, 1) := by decide +kernel
theorem dX12_in_14 : decode cX12_in 14 = .ok (.goto 4, 3) := by decide +kernel
theorem dX12_in_17 : decode cX12_in 17 = .ok (.iconst 0, 1) := by decide +kernel
theorem dX12_in_18 : decode cX12_in 18 = .ok (.ireturn, 1) := by decide +kernel
theorem dX12_within_0 : decode cX12_within 0 = .ok (.iload_n 0, 1) := by decide +kernel
theorem dX12_within_1 : decode cX12_within 1 = .ok (.iload_n 1, 1) := by decide +kernel
theorem dX12_within_2 : decode cX12_within 2 = .ok (.if_icmp .ge 7, 3) := by decide +kernel
theorem dX12_within_5 : decode cX12_within 5 = .ok (.iload_n 1, 1) := by decide +kernel
theorem dX12_within_6 : decode cX12_within 6 = .ok (.goto 13, 3) := by decide +kernel
theorem dX12_within_9 : decode cX12_within 9 = .ok (.iload_n 0, 1) := by decide +kernel
theorem dX12_within_10 : decode cX12_within 10 = .ok (.iload_n 2, 1) := by decide +kernel
theorem dX12_within_11 : decode cX12_within 11 = .ok (.if_icmp .le 7, 3) := by decide +kernel
theorem dX12_within_14 : decode cX12_within 14 = .ok (.iload_n 2, 1) := by decide +kernel
theorem dX12_within_15 : decode cX12_within 15 = .ok (.goto 4, 3) := by decide +kernel
theorem dX12_within_18 : decode cX12_within 18 = .ok (.iload_n 0, 1) := by decide +kernel
theorem dX12_within_19 : decode cX12_within 19 = .ok (.ireturn, 1) := by decide +kernel
theorem dX12_init_0 : decode cX12_init 0 = .ok (.aload_n 0, 1) := by decide +kernel
theorem dX12_init_1 : decode cX12_init 1 = .ok (.invokespecial 7, 3) := by decide +kernel
theorem dX12_init_4 : decode cX12_init 4 = .ok (.aload_n 0, 1) := by decide +kernel
theorem dX12_init_5 : decode cX12_init 5 = .ok (.sipush 960, 3) := by decide +kernel
theorem dX12_init_8 : decode cX12_init 8 = .ok (.newarray .int, 2) := by decide +kernel
theorem dX12_init_10 : decode cX12_init 10 = .ok (.putfield 13, 3) := by decide +kernel
theorem dX12_init_13 : decode cX12_init 13 = .ok (.aload_n 0, 1) := by decide +kernel
theorem dX12_init_14 : decode cX12_init 14 = .ok (.bipush 6, 2) := by decide +kernel
theorem dX12_init_16 : decode cX12_init 16 = .ok (.newarray .int, 2) := by decide +kernel
theorem dX12_init_18 : decode cX12_init 18 = .ok (.putfield 17, 3) := by decide +kernel
theorem dX12_init_21 : decode cX12_init 21 = .ok (.aload_n 0, 1) := by decide +kernel
theorem dX12_init_22 : decode cX12_init 22 = .ok (.sipush 160, 3) := by decide +kernel
theorem dX12_init_25 : decode cX12_init 25 = .ok (.newarray .int, 2) := by decide +kernel
theorem dX12_init_27 : decode cX12_init 27 = .ok (.putfield 20, 3) := by decide +kernel
theorem dX12_init_30 : decode cX12_init 30 = .ok (.aload_n 0, 1) := by decide +kernel
theorem dX12_init_31 : decode cX12_init 31 = .ok (.iconst 2, 1) := by decide +kernel
theorem dX12_init_32 : decode cX12_init 32 = .ok (.newarray .int, 2) := by decide +kernel
theorem dX12_init_34 : decode cX12_init 34 = .ok (.putfield 23, 3) := by decide +kernel
theorem dX12_init_37 : decode cX12_init 37 = .ok (.aload_n 0, 1) := by decide +kernel
theorem dX12_init_38 : decode cX12_init 38 = .ok (.iconst 2, 1) := by decide +kernel
theorem dX12_init_39 : decode cX12_init 39 = .ok (.newarray .int, 2) := by decide +kernel
theorem dX12_init_41 : decode cX12_init 41 = .ok (.putfield 26, 3) := by decide +kernel
theorem dX12_init_44 : decode cX12_init 44 = .ok (.aload_n 0, 1) := by decide +kernel
theorem dX12_init_45 : decode cX12_init 45 = .ok (.iconst 2, 1) := by decide +kernel
theorem dX12_init_46 : decode cX12_init 46 = .ok (.newarray .int, 2) := by decide +kernel
theorem dX12_init_48 : decode cX12_init 48 = .ok (.putfield 29, 3) := by decide +kernel
theorem dX12_init_51 : decode cX12_init 51 = .ok (.aload_n 0, 1) := by decide +kernel
theorem dX12_init_52 : decode cX12_init 52 = .ok (.iconst 2, 1) := by decide +kernel
theorem dX12_init_53 : decode cX12_init 53 = .ok (.newarray .int, 2) := by decide +kernel
theorem dX12_init_55 : decode cX12_init 55 = .ok (.putfield 32, 3) := by decide +kernel
theorem dX12_init_58 : decode cX12_init 58 = .ok (.aload_n 0, 1) := by decide +kernel
theorem dX12_init_59 : decode cX12_init 59 = .ok (.bipush 6, 2) := by decide +kernel
theorem dX12_init_61 : decode cX12_init 61 = .ok (.newarray .int, 2) := by decide +kernel
theorem dX12_init_63 : decode cX12_init 63 = .ok (.putfield 35, 3) := by decide +kernel
theorem dX12_init_66 : decode cX12_init 66 = .ok (.aload_n 0, 1) := by decide +kernel
theorem dX12_init_67 : decode cX12_init 67 = .ok (.bipush 6, 2) := by decide +kernel
theorem dX12_init_69 : decode cX12_init 69 = .ok (.newarray .int, 2) := by decide +kernel
theorem dX12_init_71 : decode cX12_init 71 = .ok (.putfield 38, 3) := by decide +kernel
theorem dX12_init_74 : decode cX12_init 74 = .ok (.aload_n 0, 1) := by decide +kernel
theorem dX12_init_75 : decode cX12_init 75 = .ok (.bipush 6, 2) := by decide +kernel
theorem dX12_init_77 : decode cX12_init 77 = .ok (.newarray .int, 2) := by decide +kernel
theorem dX12_init_79 : decode cX12_init 79 = .ok (.putfield 41, 3) := by decide +kernel
theorem dX12_init_82 : decode cX12_init 82 = .ok (.aload_n 0, 1) := by decide +kernel
theorem dX12_init_83 : decode cX12_init 83 = .ok (.bipush 60, 2) := by decide +kernel
theorem dX12_init_85 : decode cX12_init 85 = .ok (.newarray .int, 2) := by decide +kernel
theorem dX12_init_87 : decode cX12_init 87 = .ok (.putfield 44, 3) := by decide +kernel
theorem dX12_init_90 : decode cX12_init 90 = .ok (.aload_n 0, 1) := by decide +kernel
theorem dX12_init_91 : decode cX12_init 91 = .ok (.bipush 40, 2) := by decide +kernel
theorem dX12_init_93 : decode cX12_init 93 = .ok (.newarray .int, 2) := by decide +kernel
theorem dX12_init_95 : decode cX12_init 95 = .ok (.putfield 47, 3) := by decide +kernel
theorem dX12_init_98 : decode cX12_init 98 = .ok (.aload_n 0, 1) := by decide +kernel
theorem dX12_init_99 : decode cX12_init 99 = .ok (.bipush 8, 2) := by decide +kernel
theorem dX12_init_101 : decode cX12_init 101 = .ok (.newarray .int, 2) := by decide +kernel
theorem dX12_init_103 : decode cX12_init 103 = .ok (.putfield 50, 3) := by decide +kernel
theorem dX12_init_106 : decode cX12_init 106 = .ok (.aload_n 0, 1) := by decide +kernel
theorem dX12_init_107 : decode cX12_init 107 = .ok (.bipush 12, 2) := by decide +kernel
theorem dX12_init_109 : decode cX12_init 109 = .ok (.newarray .int, 2) := by decide +kernel
theorem dX12_init_111 : decode cX12_init 111 = .ok (.putfield 53, 3) := by decide +kernel
theorem dX12_init_114 : decode cX12_init 114 = .ok (.aload_n 0, 1) := by decide +kernel
theorem dX12_init_115 : decode cX12_init 115 = .ok (.iconst (-1), 1) := by decide +kernel
theorem dX12_init_116 : decode cX12_init 116 = .ok (.putfield 56, 3) := by decide +kernel
theorem dX12_init_119 : decode cX12_init 119 = .ok (.aload_n 0, 1) := by decide +kernel
theorem dX12_init_120 : decode cX12_init 120 = .ok (.iconst 4, 1) := by decide +kernel
theorem dX12_init_121 : decode cX12_init 121 = .ok (.newarray .boolean, 2) := by decide +kernel
theorem dX12_init_123 : decode cX12_init 123 = .ok (.putfield 59, 3) := by decide +kernel
theorem dX12_init_126 : decode cX12_init 126 = .ok (.aload_n 0, 1) := by decide +kernel
theorem dX12_init_127 : decode cX12_init 127 = .ok (.iconst 4, 1) := by decide +kernel
theorem dX12_init_128 : decode cX12_init 128 = .ok (.newarray .int, 2) := by decide +kernel
theorem dX12_init_130 : decode cX12_init 130 = .ok (.putfield 63, 3) := by decide +kernel
theorem dX12_init_133 : decode cX12_init 133 = .ok (.aload_n 0, 1) := by decide +kernel
theorem dX12_init_134 : decode cX12_init 134 = .ok (.iconst 4, 1) := by decide +kernel
theorem dX12_init_135 : decode cX12_init 135 = .ok (.newarray .int, 2) := by decide +kernel
theorem dX12_init_137 : decode cX12_init 137 = .ok (.putfield 66, 3) := by decide +kernel
theorem dX12_init_140 : decode cX12_init 140 = .ok (.aload_n 0, 1) := by decide +kernel
theorem dX12_init_141 : decode cX12_init 141 = .ok (.sipush 160, 3) := by decide +kernel
theorem dX12_init_144 : decode cX12_init 144 = .ok (.newarray .int, 2) := by decide +kernel
theorem dX12_init_146 : decode cX12_init 146 = .ok (.putfield 69, 3) := by decide +kernel
theorem dX12_init_149 : decode cX12_init 149 = .ok (.iconst 0, 1) := by decide +kernel
theorem dX12_init_150 : decode cX12_init 150 = .ok (.istore_n 1, 1) := by decide +kernel
theorem dX12_init_151 : decode cX12_init 151 = .ok (.iload_n 1, 1) := by decide +kernel
theorem dX12_init_152 : decode cX12_init 152 = .ok (.iconst 2, 1) := by decide +kernel
theorem dX12_init_153 : decode cX12_init 153 = .ok (.if_icmp .ge 41, 3) := by decide +kernel
theorem dX12_init_156 : decode cX12_init 156 = .ok (.aload_n 0, 1) := by decide +kernel
theorem dX12_init_157 : decode cX12_init 157 = .ok (.getfield 23, 3) := by decide +kernel
theorem dX12_init_160 : decode cX12_init 160 = .ok (.iload_n 1, 1) := by decide +kernel
theorem dX12_init_161 : decode cX12_init 161 = .ok (.bipush 12, 2) := by decide +kernel
theorem dX12_init_163 : decode cX12_init 163 = .ok (.iastore, 1) := by decide +kernel
theorem dX12_init_164 : decode cX12_init 164 = .ok (.aload_n 0, 1) := by decide +kernel
theorem dX12_init_165 : decode cX12_init 165 = .ok (.getfield 26, 3) := by decide +kernel
theorem dX12_init_168 : decode cX12_init 168 = .ok (.iload_n 1, 1) := by decide +kernel
theorem dX12_init_169 : decode cX12_init 169 = .ok (.sipush 500, 3) := by decide +kernel
theorem dX12_init_172 : decode cX12_init 172 = .ok (.iastore, 1) := by decide +kernel
theorem dX12_init_173 : decode cX12_init 173 = .ok (.aload_n 0, 1) := by decide +kernel
theorem dX12_init_174 : decode cX12_init 174 = .ok (.getfield 29, 3) := by decide +kernel
theorem dX12_init_177 : decode cX12_init 177 = .ok (.iload_n 1, 1) := by decide +kernel
theorem dX12_init_178 : decode cX12_init 178 = .ok (.iconst 5, 1) := by decide +kernel
theorem dX12_init_179 : decode cX12_init 179 = .ok (.iastore, 1) := by decide +kernel
theorem dX12_init_180 : decode cX12_init 180 = .ok (.aload_n 0, 1) := by decide +kernel
theorem dX12_init_181 : decode cX12_init 181 = .ok (.getfield 32, 3) := by decide +kernel
theorem dX12_init_184 : decode cX12_init 184 = .ok (.iload_n 1, 1) := by decide +kernel
theorem dX12_init_185 : decode cX12_init 185 = .ok (.bipush 12, 2) := by decide +kernel
theorem dX12_init_187 : decode cX12_init 187 = .ok (.iastore, 1) := by decide +kernel
theorem dX12_init_188 : decode cX12_init 188 = .ok (.iinc 1 1, 3) := by decide +kernel
theorem dX12_init_191 : decode cX12_init 191 = .ok (.goto (-40), 3) := by decide +kernel
theorem dX12_init_194 : decode cX12_init 194 = .ok (.aload_n 0, 1) := by decide +kernel
theorem dX12_init_195 : decode cX12_init 195 = .ok (.iconst 0, 1) := by decide +kernel
theorem dX12_init_196 : decode cX12_init 196 = .ok (.bipush 102, 2) := by decide +kernel
theorem dX12_init_198 : decode cX12_init 198 = .ok (.bipush 108, 2) := by decide +kernel
theorem dX12_init_200 : decode cX12_init 200 = .ok (.bipush 105, 2) := by decide +kernel
theorem dX12_init_202 : decode cX12_init 202 = .ok (.bipush 101, 2) := by decide +kernel
theorem dX12_init_204 : decode cX12_init 204 = .ok (.bipush 115, 2) := by decide +kernel
theorem dX12_init_206 : decode cX12_init 206 = .ok (.bipush 32, 2) := by decide +kernel
theorem dX12_init_208 : decode cX12_init 208 = .ok (.bipush 56, 2) := by decide +kernel
theorem dX12_init_210 : decode cX12_init 210 = .ok (.bipush 32, 2) := by decide +kernel
theorem dX12_init_212 : decode cX12_init 212 = .ok (.invokevirtual 72, 3) := by decide +kernel
theorem dX12_init_215 : decode cX12_init 215 = .ok (.aload_n 0, 1) := by decide +kernel
theorem dX12_init_216 : decode cX12_init 216 = .ok (.bipush 8, 2) := by decide +kernel
theorem dX12_init_218 : decode cX12_init 218 = .ok (.bipush 43, 2) := by decide +kernel
theorem dX12_init_220 : decode cX12_init 220 = .ok (.bipush 32, 2) := by decide +kernel
theorem dX12_init_222 : decode cX12_init 222 = .ok (.bipush 102, 2) := by decide +kernel
theorem dX12_init_224 : decode cX12_init 224 = .ok (.bipush 97, 2) := by decide +kernel
theorem dX12_init_226 : decode cX12_init 226 = .ok (.bipush 114, 2) := by decide +kernel
theorem dX12_init_228 : decode cX12_init 228 = .ok (.bipush 32, 2) := by decide +kernel
theorem dX12_init_230 : decode cX12_init 230 = .ok (.bipush 42, 2) := by decide +kernel
theorem dX12_init_232 : decode cX12_init 232 = .ok (.bipush 32, 2) := by decide +kernel
theorem dX12_init_234 : decode cX12_init 234 = .ok (.invokevirtual 72, 3) := by decide +kernel
theorem dX12_init_237 : decode cX12_init 237 = .ok (.aload_n 0, 1) := by decide +kernel
theorem dX12_init_238 : decode cX12_init 238 = .ok (.bipush 16, 2) := by decide +kernel
theorem dX12_init_240 : decode cX12_init 240 = .ok (.bipush 51, 2) := by decide +kernel
theorem dX12_init_242 : decode cX12_init 242 = .ok (.bipush 32, 2) := by decide +kernel
theorem dX12_init_244 : decode cX12_init 244 = .ok (.bipush 59, 2) := by decide +kernel
theorem dX12_init_246 : decode cX12_init 246 = .ok (.bipush 32, 2) := by decide +kernel
theorem dX12_init_248 : decode cX12_init 248 = .ok (.bipush 115, 2) := by decide +kernel
theorem dX12_init_250 : decode cX12_init 250 = .ok (.bipush 116, 2) := by decide +kernel
theorem dX12_init_252 : decode cX12_init 252 = .ok (.bipush 101, 2) := by decide +kernel
theorem dX12_init_254 : decode cX12_init 254 = .ok (.bipush 112, 2) := by decide +kernel
theorem dX12_init_256 : decode cX12_init 256 = .ok (.invokevirtual 72, 3) := by decide +kernel
theorem dX12_init_259 : decode cX12_init 259 = .ok (.aload_n 0, 1) := by decide +kernel
theorem dX12_init_260 : decode cX12_init 260 = .ok (.bipush 24, 2) := by decide +kernel
theorem dX12_init_262 : decode cX12_init 262 = .ok (.bipush 115, 2) := by decide +kernel
theorem dX12_init_264 : decode cX12_init 264 = .ok (.bipush 32, 2) := by decide +kernel
theorem dX12_init_266 : decode cX12_init 266 = .ok (.bipush 57, 2) := by decide +kernel
theorem dX12_init_268 : decode cX12_init 268 = .ok (.bipush 32, 2) := by decide +kernel
theorem dX12_init_270 : decode cX12_init 270 = .ok (.bipush 45, 2) := by decide +kernel
theorem dX12_init_272 : decode cX12_init 272 = .ok (.bipush 32, 2) := by decide +kernel
theorem dX12_init_274 : decode cX12_init 274 = .ok (.bipush 113, 2) := by decide +kernel
theorem dX12_init_276 : decode cX12_init 276 = .ok (.bipush 117, 2) := by decide +kernel
theorem dX12_init_278 : decode cX12_init 278 = .ok (.invokevirtual 72, 3) := by decide +kernel
theorem dX12_init_281 : decode cX12_init 281 = .ok (.aload_n 0, 1) := by decide +kernel
theorem dX12_init_282 : decode cX12_init 282 = .ok (.bipush 32, 2) := by decide +kernel
theorem dX12_init_284 : decode cX12_init 284 = .ok (.bipush 105, 2) := by decide +kernel
theorem dX12_init_286 : decode cX12_init 286 = .ok (.bipush 99, 2) := by decide +kernel
theorem dX12_init_288 : decode cX12_init 288 = .ok (.bipush 107, 2) := by decide +kernel
theorem dX12_init_290 : decode cX12_init 290 = .ok (.bipush 32, 2) := by decide +kernel
theorem dX12_init_292 : decode cX12_init 292 = .ok (.bipush 59, 2) := by decide +kernel
theorem dX12_init_294 : decode cX12_init 294 = .ok (.bipush 32, 2) := by decide +kernel
theorem dX12_init_296 : decode cX12_init 296 = .ok (.bipush 115, 2) := by decide +kernel
theorem dX12_init_298 : decode cX12_init 298 = .ok (.bipush 108, 2) := by decide +kernel
theorem dX12_init_300 : decode cX12_init 300 = .ok (.invokevirtual 72, 3) := by decide +kernel
theorem dX12_init_303 : decode cX12_init 303 = .ok (.aload_n 0, 1) := by decide +kernel
theorem dX12_init_304 : decode cX12_init 304 = .ok (.bipush 40, 2) := by decide +kernel
theorem dX12_init_306 : decode cX12_init 306 = .ok (.bipush 105, 2) := by decide +kernel
theorem dX12_init_308 : decode cX12_init 308 = .ok (.bipush 112, 2) := by decide +kernel
theorem dX12_init_310 : decode cX12_init 310 = .ok (.bipush 115, 2) := by decide +kernel
theorem dX12_init_312 : decode cX12_init 312 = .ok (.bipush 32, 2) := by decide +kernel
theorem dX12_init_314 : decode cX12_init 314 = .ok (.bipush 102, 2) := by decide +kernel
theorem dX12_init_316 : decode cX12_init 316 = .ok (.bipush 97, 2) := by decide +kernel
theorem dX12_init_318 : decode cX12_init 318 = .ok (.bipush 114, 2) := by decide +kernel
theorem dX12_init_320 : decode cX12_init 320 = .ok (.bipush 32, 2) := by decide +kernel
theorem dX12_init_322 : decode cX12_init 322 = .ok (.invokevirtual 72, 3) := by decide +kernel
theorem dX12_init_325 : decode cX12_init 325 = .ok (.aload_n 0, 1) := by decide +kernel
theorem dX12_init_326 : decode cX12_init 326 = .ok (.bipush 48, 2) := by decide +kernel
theorem dX12_init_328 : decode cX12_init 328 = .ok (.bipush 42, 2) := by decide +kernel
theorem dX12_init_330 : decode cX12_init 330 = .ok (.bipush 32, 2) := by decide +kernel
theorem dX12_init_332 : decode cX12_init 332 = .ok (.bipush 50, 2) := by decide +kernel
theorem dX12_init_334 : decode cX12_init 334 = .ok (.bipush 32, 2) := by decide +kernel
theorem dX12_init_336 : decode cX12_init 336 = .ok (.bipush 59, 2) := by decide +kernel
theorem dX12_init_338 : decode cX12_init 338 = .ok (.bipush 32, 2) := by decide +kernel
theorem dX12_init_340 : decode cX12_init 340 = .ok (.bipush 32, 2) := by decide +kernel
theorem dX12_init_342 : decode cX12_init 342 = .ok (.bipush 32, 2) := by decide +kernel
theorem dX12_init_344 : decode cX12_init 344 = .ok (.invokevirtual 72, 3) := by decide +kernel
theorem dX12_init_347 : decode cX12_init 347 = .ok (.aload_n 0, 1) := by decide +kernel
theorem dX12_init_348 : decode cX12_init 348 = .ok (.getfield 17, 3) := by decide +kernel
theorem dX12_init_351 : decode cX12_init 351 = .ok (.iconst 0, 1) := by decide +kernel
theorem dX12_init_352 : decode cX12_init 352 = .ok (.bipush 56, 2) := by decide +kernel
theorem dX12_init_354 : decode cX12_init 354 = .ok (.iastore, 1) := by decide +kernel
theorem dX12_init_355 : decode cX12_init 355 = .ok (.aload_n 0, 1) := by decide +kernel
theorem dX12_init_356 : decode cX12_init 356 = .ok (.iconst 1, 1) := by decide +kernel
theorem dX12_init_357 : decode cX12_init 357 = .ok (.putfield 76, 3) := by decide +kernel
theorem dX12_init_360 : decode cX12_init 360 = .ok (.return_, 1) := by decide +kernel
theorem dX12_spell_0 : decode cX12_spell 0 = .ok (.aload_n 0, 1) := by decide +kernel
theorem dX12_spell_1 : decode cX12_spell 1 = .ok (.getfield 13, 3) := by decide +kernel
theorem dX12_spell_4 : decode cX12_spell 4 = .ok (.iload_n 1, 1) := by decide +kernel
theorem dX12_spell_5 : decode cX12_spell 5 = .ok (.iload_n 2, 1) := by decide +kernel
theorem dX12_spell_6 : decode cX12_spell 6 = .ok (.iastore, 1) := by decide +kernel
theorem dX12_spell_7 : decode cX12_spell 7 = .ok (.aload_n 0, 1) := by decide +kernel
theorem dX12_spell_8 : decode cX12_spell 8 = .ok (.getfield 13, 3) := by decide +kernel
theorem dX12_spell_11 : decode cX12_spell 11 = .ok (.iload_n 1, 1) := by decide +kernel
theorem dX12_spell_12 : decode cX12_spell 12 = .ok (.iconst 1, 1) := by decide +kernel
theorem dX12_spell_13 : decode cX12_spell 13 = .ok (.iadd, 1) := by decide +kernel
theorem dX12_spell_14 : decode cX12_spell 14 = .ok (.iload_n 3, 1) := by decide +kernel
theorem dX12_spell_15 : decode cX12_spell 15 = .ok (.iastore, 1) := by decide +kernel
theorem dX12_spell_16 : decode cX12_spell 16 = .ok (.aload_n 0, 1) := by decide +kernel
theorem dX12_spell_17 : decode cX12_spell 17 = .ok (.getfield 13, 3) := by decide +kernel
theorem dX12_spell_20 : decode cX12_spell 20 = .ok (.iload_n 1, 1) := by decide +kernel
theorem dX12_spell_21 : decode cX12_spell 21 = .ok (.iconst 2, 1) := by decide +kernel
theorem dX12_spell_22 : decode cX12_spell 22 = .ok (.iadd, 1) := by decide +kernel
theorem dX12_spell_23 : decode cX12_spell 23 = .ok (.iload 4, 2) := by decide +kernel
theorem dX12_spell_25 : decode cX12_spell 25 = .ok (.iastore, 1) := by decide +kernel
theorem dX12_spell_26 : decode cX12_spell 26 = .ok (.aload_n 0, 1) := by decide +kernel
theorem dX12_spell_27 : decode cX12_spell 27 = .ok (.getfield 13, 3) := by decide +kernel
theorem dX12_spell_30 : decode cX12_spell 30 = .ok (.iload_n 1, 1) := by decide +kernel
theorem dX12_spell_31 : decode cX12_spell 31 = .ok (.iconst 3, 1) := by decide +kernel
theorem dX12_spell_32 : decode cX12_spell 32 = .ok (.iadd, 1) := by decide +kernel
theorem dX12_spell_33 : decode cX12_spell 33 = .ok (.iload 5, 2) := by decide +kernel
theorem dX12_spell_35 : decode cX12_spell 35 = .ok (.iastore, 1) := by decide +kernel
theorem dX12_spell_36 : decode cX12_spell 36 = .ok (.aload_n 0, 1) := by decide +kernel
theorem dX12_spell_37 : decode cX12_spell 37 = .ok (.getfield 13, 3) := by decide +kernel
theorem dX12_spell_40 : decode cX12_spell 40 = .ok (.iload_n 1, 1) := by decide +kernel
theorem dX12_spell_41 : decode cX12_spell 41 = .ok (.iconst 4, 1) := by decide +kernel
theorem dX12_spell_42 : decode cX12_spell 42 = .ok (.iadd, 1) := by decide +kernel
theorem dX12_spell_43 : decode cX12_spell 43 = .ok (.iload 6, 2) := by decide +kernel
theorem dX12_spell_45 : decode cX12_spell 45 = .ok (.iastore, 1) := by decide +kernel
theorem dX12_spell_46 : decode cX12_spell 46 = .ok (.aload_n 0, 1) := by decide +kernel
theorem dX12_spell_47 : decode cX12_spell 47 = .ok (.getfield 13, 3) := by decide +kernel
theorem dX12_spell_50 : decode cX12_spell 50 = .ok (.iload_n 1, 1) := by decide +kernel
theorem dX12_spell_51 : decode cX12_spell 51 = .ok (.iconst 5, 1) := by decide +kernel
theorem dX12_spell_52 : decode cX12_spell 52 = .ok (.iadd, 1) := by decide +kernel
theorem dX12_spell_53 : decode cX12_spell 53 = .ok (.iload 7, 2) := by decide +kernel
theorem dX12_spell_55 : decode cX12_spell 55 = .ok (.iastore, 1) := by decide +kernel
theorem dX12_spell_56 : decode cX12_spell 56 = .ok (.aload_n 0, 1) := by decide +kernel
theorem dX12_spell_57 : decode cX12_spell 57 = .ok (.getfield 13, 3) := by decide +kernel
theorem dX12_spell_60 : decode cX12_spell 60 = .ok (.iload_n 1, 1) := by decide +kernel
theorem dX12_spell_61 : decode cX12_spell 61 = .ok (.bipush 6, 2) := by decide +kernel
theorem dX12_spell_63 : decode cX12_spell 63 = .ok (.iadd, 1) := by decide +kernel
theorem dX12_spell_64 : decode cX12_spell 64 = .ok (.iload 8, 2) := by decide +kernel
theorem dX12_spell_66 : decode cX12_spell 66 = .ok (.iastore, 1) := by decide +kernel
theorem dX12_spell_67 : decode cX12_spell 67 = .ok (.aload_n 0, 1) := by decide +kernel
theorem dX12_spell_68 : decode cX12_spell 68 = .ok (.getfield 13, 3) := by decide +kernel
theorem dX12_spell_71 : decode cX12_spell 71 = .ok (.iload_n 1, 1) := by decide +kernel
theorem dX12_spell_72 : decode cX12_spell 72 = .ok (.bipush 7, 2) := by decide +kernel
theorem dX12_spell_74 : decode cX12_spell 74 = .ok (.iadd, 1) := by decide +kernel
theorem dX12_spell_75 : decode cX12_spell 75 = .ok (.iload 9, 2) := by decide +kernel
theorem dX12_spell_77 : decode cX12_spell 77 = .ok (.iastore, 1) := by decide +kernel
theorem dX12_spell_78 : decode cX12_spell 78 = .ok (.return_, 1) := by decide +kernel
theorem dX12_isStroke_0 : decode cX12_isStroke 0 = .ok (.iload_n 1, 1) := by decide +kernel
theorem dX12_isStroke_1 : decode cX12_isStroke 1 = .ok (.i2l, 1) := by decide +kernel
theorem dX12_isStroke_2 : decode cX12_isStroke 2 = .ok (.lconst 0, 1) := by decide +kernel
theorem dX12_isStroke_3 : decode cX12_isStroke 3 = .ok (.aload_n 0, 1) := by decide +kernel
theorem dX12_isStroke_4 : decode cX12_isStroke 4 = .ok (.getfield 79, 3) := by decide +kernel
theorem dX12_isStroke_7 : decode cX12_isStroke 7 = .ok (.iconst 1, 1) := by decide +kernel
theorem dX12_isStroke_8 : decode cX12_isStroke 8 = .ok (.isub, 1) := by decide +kernel
theorem dX12_isStroke_9 : decode cX12_isStroke 9 = .ok (.i2l, 1) := by decide +kernel
theorem dX12_isStroke_10 : decode cX12_isStroke 10 = .ok (.invokestatic 82, 3) := by decide +kernel
theorem dX12_isStroke_13 : decode cX12_isStroke 13 = .ok (.ireturn, 1) := by decide +kernel
theorem dX12_isPlayer_0 : decode cX12_isPlayer 0 = .ok (.iload_n 0, 1) := by decide +kernel
theorem dX12_isPlayer_1 : decode cX12_isPlayer 1 = .ok (.i2l, 1) := by decide +kernel
theorem dX12_isPlayer_2 : decode cX12_isPlayer 2 = .ok (.lconst 0, 1) := by decide +kernel
theorem dX12_isPlayer_3 : decode cX12_isPlayer 3 = .ok (.lconst 1, 1) := by decide +kernel
theorem dX12_isPlayer_4 : decode cX12_isPlayer 4 = .ok (.invokestatic 82, 3) := by decide +kernel
theorem dX12_isPlayer_7 : decode cX12_isPlayer 7 = .ok (.ireturn, 1) := by decide +kernel
theorem dX12_isCell_0 : decode cX12_isCell 0 = .ok (.iload_n 0, 1) := by decide +kernel
theorem dX12_isCell_1 : decode cX12_isCell 1 = .ok (.i2l, 1) := by decide +kernel
theorem dX12_isCell_2 : decode cX12_isCell 2 = .ok (.lconst 0, 1) := by decide +kernel
theorem dX12_isCell_3 : decode cX12_isCell 3 = .ok (.ldc2_w 86, 3) := by decide +kernel
theorem dX12_isCell_6 : decode cX12_isCell 6 = .ok (.invokestatic 82, 3) := by decide +kernel
theorem dX12_isCell_9 : decode cX12_isCell 9 = .ok (.ireturn, 1) := by decide +kernel
theorem dX12_set_0 : decode cX12_set 0 = .ok (.iload_n 1, 1) := by decide +kernel
theorem dX12_set_1 : decode cX12_set 1 = .ok (.i2l, 1) := by decide +kernel
theorem dX12_set_2 : decode cX12_set 2 = .ok (.lconst 0, 1) := by decide +kernel
theorem dX12_set_3 : decode cX12_set 3 = .ok (.ldc2_w 88, 3) := by decide +kernel
theorem dX12_set_6 : decode cX12_set 6 = .ok (.invokestatic 82, 3) := by decide +kernel
theorem dX12_set_9 : decode cX12_set 9 = .ok (.ifCond .eq 37, 3) := by decide +kernel
theorem dX12_set_12 : decode cX12_set 12 = .ok (.iload_n 1, 1) := by decide +kernel
theorem dX12_set_13 : decode cX12_set 13 = .ok (.iconst 4, 1) := by decide +kernel
theorem dX12_set_14 : decode cX12_set 14 = .ok (.if_icmp .ge 10, 3) := by decide +kernel
theorem dX12_set_17 : decode cX12_set 17 = .ok (.iload_n 2, 1) := by decide +kernel
theorem dX12_set_18 : decode cX12_set 18 = .ok (.invokestatic 90, 3) := by decide +kernel
theorem dX12_set_21 : decode cX12_set 21 = .ok (.ifCond .eq 25, 3) := by decide +kernel
theorem dX12_set_24 : decode cX12_set 24 = .ok (.iload_n 1, 1) := by decide +kernel
theorem dX12_set_25 : decode cX12_set 25 = .ok (.i2l, 1) := by decide +kernel
theorem dX12_set_26 : decode cX12_set 26 = .ok (.ldc2_w 94, 3) := by decide +kernel
theorem dX12_set_29 : decode cX12_set 29 = .ok (.ldc2_w 96, 3) := by decide +kernel
theorem dX12_set_32 : decode cX12_set 32 = .ok (.invokestatic 82, 3) := by decide +kernel
theorem dX12_set_35 : decode cX12_set 35 = .ok (.ifCond .eq 14, 3) := by decide +kernel
theorem dX12_set_38 : decode cX12_set 38 = .ok (.aload_n 0, 1) := by decide +kernel
theorem dX12_set_39 : decode cX12_set 39 = .ok (.iload_n 2, 1) := by decide +kernel
theorem dX12_set_40 : decode cX12_set 40 = .ok (.invokevirtual 98, 3) := by decide +kernel
theorem dX12_set_43 : decode cX12_set 43 = .ok (.ifCond .ne 6, 3) := by decide +kernel
theorem dX12_set_46 : decode cX12_set 46 = .ok (.bipush (-100), 2) := by decide +kernel
theorem dX12_set_48 : decode cX12_set 48 = .ok (.ireturn, 1) := by decide +kernel
theorem dX12_set_49 : decode cX12_set 49 = .ok (.iload_n 3, 1) := by decide +kernel
theorem dX12_set_50 : decode cX12_set 50 = .ok (.i2l, 1) := by decide +kernel
theorem dX12_set_51 : decode cX12_set 51 = .ok (.iload_n 1, 1) := by decide +kernel
theorem dX12_set_52 : decode cX12_set 52 = .ok (.iconst 3, 1) := by decide +kernel
theorem dX12_set_53 : decode cX12_set 53 = .ok (.if_icmp .ne 9, 3) := by decide +kernel
theorem dX12_set_56 : decode cX12_set 56 = .ok (.ldc2_w 101, 3) := by decide +kernel
theorem dX12_set_59 : decode cX12_set 59 = .ok (.goto 4, 3) := by decide +kernel
theorem dX12_set_62 : decode cX12_set 62 = .ok (.lconst 0, 1) := by decide +kernel
theorem dX12_set_63 : decode cX12_set 63 = .ok (.iload_n 1, 1) := by decide +kernel
theorem dX12_set_64 : decode cX12_set 64 = .ok (.iconst 1, 1) := by decide +kernel
theorem dX12_set_65 : decode cX12_set 65 = .ok (.if_icmp .ne 9, 3) := by decide +kernel
theorem dX12_set_68 : decode cX12_set 68 = .ok (.ldc2_w 103, 3) := by decide +kernel
theorem dX12_set_71 : decode cX12_set 71 = .ok (.goto 34, 3) := by decide +kernel
theorem dX12_set_74 : decode cX12_set 74 = .ok (.iload_n 1, 1) := by decide +kernel
theorem dX12_set_75 : decode cX12_set 75 = .ok (.iconst 2, 1) := by decide +kernel
theorem dX12_set_76 : decode cX12_set 76 = .ok (.if_icmp .eq 8, 3) := by decide +kernel
theorem dX12_set_79 : decode cX12_set 79 = .ok (.iload_n 1, 1) := by decide +kernel
theorem dX12_set_80 : decode cX12_set 80 = .ok (.iconst 4, 1) := by decide +kernel
theorem dX12_set_81 : decode cX12_set 81 = .ok (.if_icmp .ne 9, 3) := by decide +kernel
theorem dX12_set_84 : decode cX12_set 84 = .ok (.ldc2_w 105, 3) := by decide +kernel
theorem dX12_set_87 : decode cX12_set 87 = .ok (.goto 18, 3) := by decide +kernel
theorem dX12_set_90 : decode cX12_set 90 = .ok (.iload_n 1, 1) := by decide +kernel
theorem dX12_set_91 : decode cX12_set 91 = .ok (.bipush 6, 2) := by decide +kernel
theorem dX12_set_93 : decode cX12_set 93 = .ok (.if_icmp .ne 9, 3) := by decide +kernel
theorem dX12_set_96 : decode cX12_set 96 = .ok (.ldc2_w 107, 3) := by decide +kernel
theorem dX12_set_99 : decode cX12_set 99 = .ok (.goto 6, 3) := by decide +kernel
theorem dX12_set_102 : decode cX12_set 102 = .ok (.ldc2_w 86, 3) := by decide +kernel
theorem dX12_set_105 : decode cX12_set 105 = .ok (.invokestatic 82, 3) := by decide +kernel
theorem dX12_set_108 : decode cX12_set 108 = .ok (.ifCond .ne 6, 3) := by decide +kernel
theorem dX12_set_111 : decode cX12_set 111 = .ok (.bipush (-100), 2) := by decide +kernel
theorem dX12_set_113 : decode cX12_set 113 = .ok (.ireturn, 1) := by decide +kernel
theorem dX12_set_114 : decode cX12_set 114 = .ok (.iload_n 1, 1) := by decide +kernel
theorem dX12_set_115 : decode cX12_set 115 = .ok (.bipush 6, 2) := by decide +kernel
theorem dX12_set_117 : decode cX12_set 117 = .ok (.if_icmp .ne 10, 3) := by decide +kernel
theorem dX12_set_120 : decode cX12_set 120 = .ok (.aload_n 0, 1) := by decide +kernel
theorem dX12_set_121 : decode cX12_set 121 = .ok (.getfield 109, 3) := by decide +kernel
theorem dX12_set_124 : decode cX12_set 124 = .ok (.goto 9, 3) := by decide +kernel
theorem dX12_set_127 : decode cX12_set 127 = .ok (.aload_n 0, 1) := by decide +kernel
theorem dX12_set_128 : decode cX12_set 128 = .ok (.iload_n 2, 1) := by decide +kernel
theorem dX12_set_129 : decode cX12_set 129 = .ok (.iload_n 1, 1) := by decide +kernel
theorem dX12_set_130 : decode cX12_set 130 = .ok (.invokevirtual 112, 3) := by decide +kernel
theorem dX12_set_133 : decode cX12_set 133 = .ok (.istore 4, 2) := by decide +kernel
theorem dX12_set_135 : decode cX12_set 135 = .ok (.iload_n 1, 1) := by decide +kernel
theorem dX12_set_136 : decode cX12_set 136 = .ok (.ifCond .ne 13, 3) := by decide +kernel
theorem dX12_set_139 : decode cX12_set 139 = .ok (.aload_n 0, 1) := by decide +kernel
theorem dX12_set_140 : decode cX12_set 140 = .ok (.getfield 23, 3) := by decide +kernel
theorem dX12_set_143 : decode cX12_set 143 = .ok (.iload_n 2, 1) := by decide +kernel
theorem dX12_set_144 : decode cX12_set 144 = .ok (.iload_n 3, 1) := by decide +kernel
theorem dX12_set_145 : decode cX12_set 145 = .ok (.iastore, 1) := by decide +kernel
theorem dX12_set_146 : decode cX12_set 146 = .ok (.goto 83, 3) := by decide +kernel
theorem dX12_set_149 : decode cX12_set 149 = .ok (.iload_n 1, 1) := by decide +kernel
theorem dX12_set_150 : decode cX12_set 150 = .ok (.iconst 1, 1) := by decide +kernel
theorem dX12_set_151 : decode cX12_set 151 = .ok (.if_icmp .ne 13, 3) := by decide +kernel
theorem dX12_set_154 : decode cX12_set 154 = .ok (.aload_n 0, 1) := by decide +kernel
theorem dX12_set_155 : decode cX12_set 155 = .ok (.getfield 26, 3) := by decide +kernel
theorem dX12_set_158 : decode cX12_set 158 = .ok (.iload_n 2, 1) := by decide +kernel
theorem dX12_set_159 : decode cX12_set 159 = .ok (.iload_n 3, 1) := by decide +kernel
theorem dX12_set_160 : decode cX12_set 160 = .ok (.iastore, 1) := by decide +kernel
theorem dX12_set_161 : decode cX12_set 161 = .ok (.goto 68, 3) := by decide +kernel
theorem dX12_set_164 : decode cX12_set 164 = .ok (.iload_n 1, 1) := by decide +kernel
theorem dX12_set_165 : decode cX12_set 165 = .ok (.iconst 2, 1) := by decide +kernel
theorem dX12_set_166 : decode cX12_set 166 = .ok (.if_icmp .ne 13, 3) := by decide +kernel
theorem dX12_set_169 : decode cX12_set 169 = .ok (.aload_n 0, 1) := by decide +kernel
theorem dX12_set_170 : decode cX12_set 170 = .ok (.getfield 29, 3) := by decide +kernel
theorem dX12_set_173 : decode cX12_set 173 = .ok (.iload_n 2, 1) := by decide +kernel
theorem dX12_set_174 : decode cX12_set 174 = .ok (.iload_n 3, 1) := by decide +kernel
theorem dX12_set_175 : decode cX12_set 175 = .ok (.iastore, 1) := by decide +kernel
theorem dX12_set_176 : decode cX12_set 176 = .ok (.goto 53, 3) := by decide +kernel
theorem dX12_set_179 : decode cX12_set 179 = .ok (.iload_n 1, 1) := by decide +kernel
theorem dX12_set_180 : decode cX12_set 180 = .ok (.iconst 3, 1) := by decide +kernel
theorem dX12_set_181 : decode cX12_set 181 = .ok (.if_icmp .ne 13, 3) := by decide +kernel
theorem dX12_set_184 : decode cX12_set 184 = .ok (.aload_n 0, 1) := by decide +kernel
theorem dX12_set_185 : decode cX12_set 185 = .ok (.getfield 32, 3) := by decide +kernel
theorem dX12_set_188 : decode cX12_set 188 = .ok (.iload_n 2, 1) := by decide +kernel
theorem dX12_set_189 : decode cX12_set 189 = .ok (.iload_n 3, 1) := by decide +kernel
theorem dX12_set_190 : decode cX12_set 190 = .ok (.iastore, 1) := by decide +kernel
theorem dX12_set_191 : decode cX12_set 191 = .ok (.goto 38, 3) := by decide +kernel
theorem dX12_set_194 : decode cX12_set 194 = .ok (.iload_n 1, 1) := by decide +kernel
theorem dX12_set_195 : decode cX12_set 195 = .ok (.iconst 4, 1) := by decide +kernel
theorem dX12_set_196 : decode cX12_set 196 = .ok (.if_icmp .ne 13, 3) := by decide +kernel
theorem dX12_set_199 : decode cX12_set 199 = .ok (.aload_n 0, 1) := by decide +kernel
theorem dX12_set_200 : decode cX12_set 200 = .ok (.getfield 38, 3) := by decide +kernel
theorem dX12_set_203 : decode cX12_set 203 = .ok (.iload_n 2, 1) := by decide +kernel
theorem dX12_set_204 : decode cX12_set 204 = .ok (.iload_n 3, 1) := by decide +kernel
theorem dX12_set_205 : decode cX12_set 205 = .ok (.iastore, 1) := by decide +kernel
theorem dX12_set_206 : decode cX12_set 206 = .ok (.goto 23, 3) := by decide +kernel
theorem dX12_set_209 : decode cX12_set 209 = .ok (.iload_n 1, 1) := by decide +kernel
theorem dX12_set_210 : decode cX12_set 210 = .ok (.iconst 5, 1) := by decide +kernel
theorem dX12_set_211 : decode cX12_set 211 = .ok (.if_icmp .ne 13, 3) := by decide +kernel
theorem dX12_set_214 : decode cX12_set 214 = .ok (.aload_n 0, 1) := by decide +kernel
theorem dX12_set_215 : decode cX12_set 215 = .ok (.getfield 41, 3) := by decide +kernel
theorem dX12_set_218 : decode cX12_set 218 = .ok (.iload_n 2, 1) := by decide +kernel
theorem dX12_set_219 : decode cX12_set 219 = .ok (.iload_n 3, 1) := by decide +kernel
theorem dX12_set_220 : decode cX12_set 220 = .ok (.iastore, 1) := by decide +kernel
theorem dX12_set_221 : decode cX12_set 221 = .ok (.goto 8, 3) := by decide +kernel
theorem dX12_set_224 : decode cX12_set 224 = .ok (.aload_n 0, 1) := by decide +kernel
theorem dX12_set_225 : decode cX12_set 225 = .ok (.iload_n 3, 1) := by decide +kernel
theorem dX12_set_226 : decode cX12_set 226 = .ok (.putfield 109, 3) := by decide +kernel
theorem dX12_set_229 : decode cX12_set 229 = .ok (.iload 4, 2) := by decide +kernel
theorem dX12_set_231 : decode cX12_set 231 = .ok (.ireturn, 1) := by decide +kernel
theorem dX12_stroke_0 : decode cX12_stroke 0 = .ok (.iload_n 1, 1) := by decide +kernel
theorem dX12_stroke_1 : decode cX12_stroke 1 = .ok (.i2l, 1) := by decide +kernel
theorem dX12_stroke_2 : decode cX12_stroke 2 = .ok (.lconst 0, 1) := by decide +kernel
theorem dX12_stroke_3 : decode cX12_stroke 3 = .ok (.ldc2_w 96, 3) := by decide +kernel
theorem dX12_stroke_6 : decode cX12_stroke 6 = .ok (.invokestatic 82, 3) := by decide +kernel
theorem dX12_stroke_9 : decode cX12_stroke 9 = .ok (.ifCond .eq 22, 3) := by decide +kernel
theorem dX12_stroke_12 : decode cX12_stroke 12 = .ok (.iload_n 2, 1) := by decide +kernel
theorem dX12_stroke_13 : decode cX12_stroke 13 = .ok (.i2l, 1) := by decide +kernel
theorem dX12_stroke_14 : decode cX12_stroke 14 = .ok (.lconst 0, 1) := by decide +kernel
theorem dX12_stroke_15 : decode cX12_stroke 15 = .ok (.ldc2_w 105, 3) := by decide +kernel
theorem dX12_stroke_18 : decode cX12_stroke 18 = .ok (.invokestatic 82, 3) := by decide +kernel
theorem dX12_stroke_21 : decode cX12_stroke 21 = .ok (.ifCond .eq 10, 3) := by decide +kernel
theorem dX12_stroke_24 : decode cX12_stroke 24 = .ok (.iload_n 3, 1) := by decide +kernel
theorem dX12_stroke_25 : decode cX12_stroke 25 = .ok (.invokestatic 116, 3) := by decide +kernel
theorem dX12_stroke_28 : decode cX12_stroke 28 = .ok (.ifCond .ne 6, 3) := by decide +kernel
theorem dX12_stroke_31 : decode cX12_stroke 31 = .ok (.bipush (-2), 2) := by decide +kernel
theorem dX12_stroke_33 : decode cX12_stroke 33 = .ok (.ireturn, 1) := by decide +kernel
theorem dX12_stroke_34 : decode cX12_stroke 34 = .ok (.aload_n 0, 1) := by decide +kernel
theorem dX12_stroke_35 : decode cX12_stroke 35 = .ok (.getfield 79, 3) := by decide +kernel
theorem dX12_stroke_38 : decode cX12_stroke 38 = .ok (.bipush 6, 2) := by decide +kernel
theorem dX12_stroke_40 : decode cX12_stroke 40 = .ok (.if_icmp .ne 6, 3) := by decide +kernel
theorem dX12_stroke_43 : decode cX12_stroke 43 = .ok (.bipush (-4), 2) := by decide +kernel
theorem dX12_stroke_45 : decode cX12_stroke 45 = .ok (.ireturn, 1) := by decide +kernel
theorem dX12_stroke_46 : decode cX12_stroke 46 = .ok (.aload_n 0, 1) := by decide +kernel
theorem dX12_stroke_47 : decode cX12_stroke 47 = .ok (.getfield 35, 3) := by decide +kernel
theorem dX12_stroke_50 : decode cX12_stroke 50 = .ok (.aload_n 0, 1) := by decide +kernel
theorem dX12_stroke_51 : decode cX12_stroke 51 = .ok (.getfield 79, 3) := by decide +kernel
theorem dX12_stroke_54 : decode cX12_stroke 54 = .ok (.iload_n 1, 1) := by decide +kernel
theorem dX12_stroke_55 : decode cX12_stroke 55 = .ok (.iastore, 1) := by decide +kernel
theorem dX12_stroke_56 : decode cX12_stroke 56 = .ok (.aload_n 0, 1) := by decide +kernel
theorem dX12_stroke_57 : decode cX12_stroke 57 = .ok (.getfield 38, 3) := by decide +kernel
theorem dX12_stroke_60 : decode cX12_stroke 60 = .ok (.aload_n 0, 1) := by decide +kernel
theorem dX12_stroke_61 : decode cX12_stroke 61 = .ok (.getfield 79, 3) := by decide +kernel
theorem dX12_stroke_64 : decode cX12_stroke 64 = .ok (.iload_n 2, 1) := by decide +kernel
theorem dX12_stroke_65 : decode cX12_stroke 65 = .ok (.iastore, 1) := by decide +kernel
theorem dX12_stroke_66 : decode cX12_stroke 66 = .ok (.aload_n 0, 1) := by decide +kernel
theorem dX12_stroke_67 : decode cX12_stroke 67 = .ok (.getfield 41, 3) := by decide +kernel
theorem dX12_stroke_70 : decode cX12_stroke 70 = .ok (.aload_n 0, 1) := by decide +kernel
theorem dX12_stroke_71 : decode cX12_stroke 71 = .ok (.getfield 79, 3) := by decide +kernel
theorem dX12_stroke_74 : decode cX12_stroke 74 = .ok (.iload_n 3, 1) := by decide +kernel
theorem dX12_stroke_75 : decode cX12_stroke 75 = .ok (.iastore, 1) := by decide +kernel
theorem dX12_stroke_76 : decode cX12_stroke 76 = .ok (.aload_n 0, 1) := by decide +kernel
theorem dX12_stroke_77 : decode cX12_stroke 77 = .ok (.dup, 1) := by decide +kernel
theorem dX12_stroke_78 : decode cX12_stroke 78 = .ok (.getfield 79, 3) := by decide +kernel
theorem dX12_stroke_81 : decode cX12_stroke 81 = .ok (.iconst 1, 1) := by decide +kernel
theorem dX12_stroke_82 : decode cX12_stroke 82 = .ok (.iadd, 1) := by decide +kernel
theorem dX12_stroke_83 : decode cX12_stroke 83 = .ok (.putfield 79, 3) := by decide +kernel
theorem dX12_stroke_86 : decode cX12_stroke 86 = .ok (.aload_n 0, 1) := by decide +kernel
theorem dX12_stroke_87 : decode cX12_stroke 87 = .ok (.getfield 79, 3) := by decide +kernel
theorem dX12_stroke_90 : decode cX12_stroke 90 = .ok (.iconst 1, 1) := by decide +kernel
theorem dX12_stroke_91 : decode cX12_stroke 91 = .ok (.isub, 1) := by decide +kernel
theorem dX12_stroke_92 : decode cX12_stroke 92 = .ok (.ireturn, 1) := by decide +kernel
theorem dX12_told_0 : decode cX12_told 0 = .ok (.iload_n 2, 1) := by decide +kernel
theorem dX12_told_1 : decode cX12_told 1 = .ok (.i2l, 1) := by decide +kernel
theorem dX12_told_2 : decode cX12_told 2 = .ok (.lconst 0, 1) := by decide +kernel
theorem dX12_told_3 : decode cX12_told 3 = .ok (.ldc2_w 88, 3) := by decide +kernel
theorem dX12_told_6 : decode cX12_told 6 = .ok (.invokestatic 82, 3) := by decide +kernel
theorem dX12_told_9 : decode cX12_told 9 = .ok (.ifCond .eq 26, 3) := by decide +kernel
theorem dX12_told_12 : decode cX12_told 12 = .ok (.iload_n 2, 1) := by decide +kernel
theorem dX12_told_13 : decode cX12_told 13 = .ok (.iconst 4, 1) := by decide +kernel
theorem dX12_told_14 : decode cX12_told 14 = .ok (.if_icmp .ge 13, 3) := by decide +kernel
theorem dX12_told_17 : decode cX12_told 17 = .ok (.iload_n 1, 1) := by decide +kernel
theorem dX12_told_18 : decode cX12_told 18 = .ok (.invokestatic 90, 3) := by decide +kernel
theorem dX12_told_21 : decode cX12_told 21 = .ok (.ifCond .eq 14, 3) := by decide +kernel
theorem dX12_told_24 : decode cX12_told 24 = .ok (.goto 14, 3) := by decide +kernel
theorem dX12_told_27 : decode cX12_told 27 = .ok (.aload_n 0, 1) := by decide +kernel
theorem dX12_told_28 : decode cX12_told 28 = .ok (.iload_n 1, 1) := by decide +kernel
theorem dX12_told_29 : decode cX12_told 29 = .ok (.invokevirtual 98, 3) := by decide +kernel
theorem dX12_told_32 : decode cX12_told 32 = .ok (.ifCond .ne 6, 3) := by decide +kernel
theorem dX12_told_35 : decode cX12_told 35 = .ok (.bipush (-100), 2) := by decide +kernel
theorem dX12_told_37 : decode cX12_told 37 = .ok (.ireturn, 1) := by decide +kernel
theorem dX12_told_38 : decode cX12_told 38 = .ok (.iload_n 2, 1) := by decide +kernel
theorem dX12_told_39 : decode cX12_told 39 = .ok (.iconst 4, 1) := by decide +kernel
theorem dX12_told_40 : decode cX12_told 40 = .ok (.if_icmp .ge 51, 3) := by decide +kernel
theorem dX12_told_43 : decode cX12_told 43 = .ok (.iload_n 2, 1) := by decide +kernel
theorem dX12_told_44 : decode cX12_told 44 = .ok (.ifCond .ne 12, 3) := by decide +kernel
end
section
theorem dX12_told_47 : decode cX12_told 47 = .ok (.aload_n 0, 1) := by decide +kernel
theorem dX12_told_48 : decode cX12_told 48 = .ok (.getfield 23, 3) := by decide +kernel
theorem dX12_told_51 : decode cX12_told 51 = .ok (.iload_n 1, 1) := by decide +kernel
theorem dX12_told_52 : decode cX12_told 52 = .ok (.iaload, 1) := by decide +kernel
theorem dX12_told_53 : decode cX12_told 53 = .ok (.goto 37, 3) := by decide +kernel
theorem dX12_told_56 : decode cX12_told 56 = .ok (.iload_n 2, 1) := by decide +kernel
theorem dX12_told_57 : decode cX12_told 57 = .ok (.iconst 1, 1) := by decide +kernel
theorem dX12_told_58 : decode cX12_told 58 = .ok (.if_icmp .ne 12, 3) := by decide +kernel
theorem dX12_told_61 : decode cX12_told 61 = .ok (.aload_n 0, 1) := by decide +kernel
theorem dX12_told_62 : decode cX12_told 62 = .ok (.getfield 26, 3) := by decide +kernel
theorem dX12_told_65 : decode cX12_told 65 = .ok (.iload_n 1, 1) := by decide +kernel
theorem dX12_told_66 : decode cX12_told 66 = .ok (.iaload, 1) := by decide +kernel
theorem dX12_told_67 : decode cX12_told 67 = .ok (.goto 23, 3) := by decide +kernel
theorem dX12_told_70 : decode cX12_told 70 = .ok (.iload_n 2, 1) := by decide +kernel
theorem dX12_told_71 : decode cX12_told 71 = .ok (.iconst 2, 1) := by decide +kernel
theorem dX12_told_72 : decode cX12_told 72 = .ok (.if_icmp .ne 12, 3) := by decide +kernel
theorem dX12_told_75 : decode cX12_told 75 = .ok (.aload_n 0, 1) := by decide +kernel
theorem dX12_told_76 : decode cX12_told 76 = .ok (.getfield 29, 3) := by decide +kernel
theorem dX12_told_79 : decode cX12_told 79 = .ok (.iload_n 1, 1) := by decide +kernel
theorem dX12_told_80 : decode cX12_told 80 = .ok (.iaload, 1) := by decide +kernel
theorem dX12_told_81 : decode cX12_told 81 = .ok (.goto 9, 3) := by decide +kernel
theorem dX12_told_84 : decode cX12_told 84 = .ok (.aload_n 0, 1) := by decide +kernel
theorem dX12_told_85 : decode cX12_told 85 = .ok (.getfield 32, 3) := by decide +kernel
theorem dX12_told_88 : decode cX12_told 88 = .ok (.iload_n 1, 1) := by decide +kernel
theorem dX12_told_89 : decode cX12_told 89 = .ok (.iaload, 1) := by decide +kernel
theorem dX12_told_90 : decode cX12_told 90 = .ok (.ireturn, 1) := by decide +kernel
theorem dX12_told_91 : decode cX12_told 91 = .ok (.iload_n 2, 1) := by decide +kernel
theorem dX12_told_92 : decode cX12_told 92 = .ok (.iconst 4, 1) := by decide +kernel
theorem dX12_told_93 : decode cX12_told 93 = .ok (.if_icmp .ne 12, 3) := by decide +kernel
theorem dX12_told_96 : decode cX12_told 96 = .ok (.aload_n 0, 1) := by decide +kernel
theorem dX12_told_97 : decode cX12_told 97 = .ok (.getfield 38, 3) := by decide +kernel
theorem dX12_told_100 : decode cX12_told 100 = .ok (.iload_n 1, 1) := by decide +kernel
theorem dX12_told_101 : decode cX12_told 101 = .ok (.iaload, 1) := by decide +kernel
theorem dX12_told_102 : decode cX12_told 102 = .ok (.goto 23, 3) := by decide +kernel
theorem dX12_told_105 : decode cX12_told 105 = .ok (.iload_n 2, 1) := by decide +kernel
theorem dX12_told_106 : decode cX12_told 106 = .ok (.iconst 5, 1) := by decide +kernel
theorem dX12_told_107 : decode cX12_told 107 = .ok (.if_icmp .ne 12, 3) := by decide +kernel
theorem dX12_told_110 : decode cX12_told 110 = .ok (.aload_n 0, 1) := by decide +kernel
theorem dX12_told_111 : decode cX12_told 111 = .ok (.getfield 41, 3) := by decide +kernel
theorem dX12_told_114 : decode cX12_told 114 = .ok (.iload_n 1, 1) := by decide +kernel
theorem dX12_told_115 : decode cX12_told 115 = .ok (.iaload, 1) := by decide +kernel
theorem dX12_told_116 : decode cX12_told 116 = .ok (.goto 9, 3) := by decide +kernel
theorem dX12_told_119 : decode cX12_told 119 = .ok (.aload_n 0, 1) := by decide +kernel
theorem dX12_told_120 : decode cX12_told 120 = .ok (.getfield 35, 3) := by decide +kernel
theorem dX12_told_123 : decode cX12_told 123 = .ok (.iload_n 1, 1) := by decide +kernel
theorem dX12_told_124 : decode cX12_told 124 = .ok (.iaload, 1) := by decide +kernel
theorem dX12_told_125 : decode cX12_told 125 = .ok (.ireturn, 1) := by decide +kernel
theorem dX12_feed_0 : decode cX12_feed 0 = .ok (.iload_n 1, 1) := by decide +kernel
theorem dX12_feed_1 : decode cX12_feed 1 = .ok (.i2l, 1) := by decide +kernel
theorem dX12_feed_2 : decode cX12_feed 2 = .ok (.lconst 0, 1) := by decide +kernel
theorem dX12_feed_3 : decode cX12_feed 3 = .ok (.ldc2_w 119, 3) := by decide +kernel
theorem dX12_feed_6 : decode cX12_feed 6 = .ok (.invokestatic 82, 3) := by decide +kernel
theorem dX12_feed_9 : decode cX12_feed 9 = .ok (.ifCond .ne 6, 3) := by decide +kernel
theorem dX12_feed_12 : decode cX12_feed 12 = .ok (.bipush (-2), 2) := by decide +kernel
theorem dX12_feed_14 : decode cX12_feed 14 = .ok (.ireturn, 1) := by decide +kernel
theorem dX12_feed_15 : decode cX12_feed 15 = .ok (.aload_n 0, 1) := by decide +kernel
theorem dX12_feed_16 : decode cX12_feed 16 = .ok (.getfield 121, 3) := by decide +kernel
theorem dX12_feed_19 : decode cX12_feed 19 = .ok (.sipush 160, 3) := by decide +kernel
theorem dX12_feed_22 : decode cX12_feed 22 = .ok (.if_icmp .ne 6, 3) := by decide +kernel
theorem dX12_feed_25 : decode cX12_feed 25 = .ok (.bipush (-4), 2) := by decide +kernel
theorem dX12_feed_27 : decode cX12_feed 27 = .ok (.ireturn, 1) := by decide +kernel
theorem dX12_feed_28 : decode cX12_feed 28 = .ok (.aload_n 0, 1) := by decide +kernel
theorem dX12_feed_29 : decode cX12_feed 29 = .ok (.getfield 20, 3) := by decide +kernel
theorem dX12_feed_32 : decode cX12_feed 32 = .ok (.aload_n 0, 1) := by decide +kernel
theorem dX12_feed_33 : decode cX12_feed 33 = .ok (.getfield 121, 3) := by decide +kernel
theorem dX12_feed_36 : decode cX12_feed 36 = .ok (.iload_n 1, 1) := by decide +kernel
theorem dX12_feed_37 : decode cX12_feed 37 = .ok (.iastore, 1) := by decide +kernel
theorem dX12_feed_38 : decode cX12_feed 38 = .ok (.aload_n 0, 1) := by decide +kernel
theorem dX12_feed_39 : decode cX12_feed 39 = .ok (.dup, 1) := by decide +kernel
theorem dX12_feed_40 : decode cX12_feed 40 = .ok (.getfield 121, 3) := by decide +kernel
theorem dX12_feed_43 : decode cX12_feed 43 = .ok (.iconst 1, 1) := by decide +kernel
theorem dX12_feed_44 : decode cX12_feed 44 = .ok (.iadd, 1) := by decide +kernel
theorem dX12_feed_45 : decode cX12_feed 45 = .ok (.putfield 121, 3) := by decide +kernel
theorem dX12_feed_48 : decode cX12_feed 48 = .ok (.aload_n 0, 1) := by decide +kernel
theorem dX12_feed_49 : decode cX12_feed 49 = .ok (.getfield 121, 3) := by decide +kernel
theorem dX12_feed_52 : decode cX12_feed 52 = .ok (.ireturn, 1) := by decide +kernel
theorem dX12_byteAt_0 : decode cX12_byteAt 0 = .ok (.iload_n 1, 1) := by decide +kernel
theorem dX12_byteAt_1 : decode cX12_byteAt 1 = .ok (.aload_n 0, 1) := by decide +kernel
theorem dX12_byteAt_2 : decode cX12_byteAt 2 = .ok (.getfield 124, 3) := by decide +kernel
theorem dX12_byteAt_5 : decode cX12_byteAt 5 = .ok (.if_icmp .ge 17, 3) := by decide +kernel
theorem dX12_byteAt_8 : decode cX12_byteAt 8 = .ok (.aload_n 0, 1) := by decide +kernel
theorem dX12_byteAt_9 : decode cX12_byteAt 9 = .ok (.getfield 13, 3) := by decide +kernel
theorem dX12_byteAt_12 : decode cX12_byteAt 12 = .ok (.aload_n 0, 1) := by decide +kernel
theorem dX12_byteAt_13 : decode cX12_byteAt 13 = .ok (.getfield 127, 3) := by decide +kernel
theorem dX12_byteAt_16 : decode cX12_byteAt 16 = .ok (.iload_n 1, 1) := by decide +kernel
theorem dX12_byteAt_17 : decode cX12_byteAt 17 = .ok (.iadd, 1) := by decide +kernel
theorem dX12_byteAt_18 : decode cX12_byteAt 18 = .ok (.iaload, 1) := by decide +kernel
theorem dX12_byteAt_19 : decode cX12_byteAt 19 = .ok (.goto 4, 3) := by decide +kernel
theorem dX12_byteAt_22 : decode cX12_byteAt 22 = .ok (.iconst (-1), 1) := by decide +kernel
theorem dX12_byteAt_23 : decode cX12_byteAt 23 = .ok (.ireturn, 1) := by decide +kernel
theorem dX12_next_0 : decode cX12_next 0 = .ok (.aload_n 0, 1) := by decide +kernel
theorem dX12_next_1 : decode cX12_next 1 = .ok (.aload_n 0, 1) := by decide +kernel
theorem dX12_next_2 : decode cX12_next 2 = .ok (.getfield 130, 3) := by decide +kernel
theorem dX12_next_5 : decode cX12_next 5 = .ok (.invokevirtual 133, 3) := by decide +kernel
theorem dX12_next_8 : decode cX12_next 8 = .ok (.bipush 32, 2) := by decide +kernel
theorem dX12_next_10 : decode cX12_next 10 = .ok (.if_icmp .eq 16, 3) := by decide +kernel
theorem dX12_next_13 : decode cX12_next 13 = .ok (.aload_n 0, 1) := by decide +kernel
theorem dX12_next_14 : decode cX12_next 14 = .ok (.aload_n 0, 1) := by decide +kernel
theorem dX12_next_15 : decode cX12_next 15 = .ok (.getfield 130, 3) := by decide +kernel
theorem dX12_next_18 : decode cX12_next 18 = .ok (.invokevirtual 133, 3) := by decide +kernel
theorem dX12_next_21 : decode cX12_next 21 = .ok (.bipush 10, 2) := by decide +kernel
theorem dX12_next_23 : decode cX12_next 23 = .ok (.if_icmp .ne 16, 3) := by decide +kernel
theorem dX12_next_26 : decode cX12_next 26 = .ok (.aload_n 0, 1) := by decide +kernel
theorem dX12_next_27 : decode cX12_next 27 = .ok (.dup, 1) := by decide +kernel
theorem dX12_next_28 : decode cX12_next 28 = .ok (.getfield 130, 3) := by decide +kernel
theorem dX12_next_31 : decode cX12_next 31 = .ok (.iconst 1, 1) := by decide +kernel
theorem dX12_next_32 : decode cX12_next 32 = .ok (.iadd, 1) := by decide +kernel
theorem dX12_next_33 : decode cX12_next 33 = .ok (.putfield 130, 3) := by decide +kernel
theorem dX12_next_36 : decode cX12_next 36 = .ok (.goto (-36), 3) := by decide +kernel
theorem dX12_next_39 : decode cX12_next 39 = .ok (.aload_n 0, 1) := by decide +kernel
theorem dX12_next_40 : decode cX12_next 40 = .ok (.aload_n 0, 1) := by decide +kernel
theorem dX12_next_41 : decode cX12_next 41 = .ok (.getfield 130, 3) := by decide +kernel
theorem dX12_next_44 : decode cX12_next 44 = .ok (.putfield 137, 3) := by decide +kernel
theorem dX12_next_47 : decode cX12_next 47 = .ok (.aload_n 0, 1) := by decide +kernel
theorem dX12_next_48 : decode cX12_next 48 = .ok (.aload_n 0, 1) := by decide +kernel
theorem dX12_next_49 : decode cX12_next 49 = .ok (.getfield 130, 3) := by decide +kernel
theorem dX12_next_52 : decode cX12_next 52 = .ok (.invokevirtual 133, 3) := by decide +kernel
theorem dX12_next_55 : decode cX12_next 55 = .ok (.istore_n 1, 1) := by decide +kernel
theorem dX12_next_56 : decode cX12_next 56 = .ok (.aload_n 0, 1) := by decide +kernel
theorem dX12_next_57 : decode cX12_next 57 = .ok (.iconst 4, 1) := by decide +kernel
theorem dX12_next_58 : decode cX12_next 58 = .ok (.putfield 140, 3) := by decide +kernel
theorem dX12_next_61 : decode cX12_next 61 = .ok (.iload_n 1, 1) := by decide +kernel
theorem dX12_next_62 : decode cX12_next 62 = .ok (.ifCond .ge 19, 3) := by decide +kernel
theorem dX12_next_65 : decode cX12_next 65 = .ok (.aload_n 0, 1) := by decide +kernel
theorem dX12_next_66 : decode cX12_next 66 = .ok (.iconst 0, 1) := by decide +kernel
theorem dX12_next_67 : decode cX12_next 67 = .ok (.putfield 140, 3) := by decide +kernel
theorem dX12_next_70 : decode cX12_next 70 = .ok (.aload_n 0, 1) := by decide +kernel
theorem dX12_next_71 : decode cX12_next 71 = .ok (.aload_n 0, 1) := by decide +kernel
theorem dX12_next_72 : decode cX12_next 72 = .ok (.getfield 124, 3) := by decide +kernel
theorem dX12_next_75 : decode cX12_next 75 = .ok (.putfield 137, 3) := by decide +kernel
theorem dX12_next_78 : decode cX12_next 78 = .ok (.goto 243, 3) := by decide +kernel
theorem dX12_next_81 : decode cX12_next 81 = .ok (.iload_n 1, 1) := by decide +kernel
theorem dX12_next_82 : decode cX12_next 82 = .ok (.i2l, 1) := by decide +kernel
theorem dX12_next_83 : decode cX12_next 83 = .ok (.ldc2_w 143, 3) := by decide +kernel
theorem dX12_next_86 : decode cX12_next 86 = .ok (.ldc2_w 145, 3) := by decide +kernel
theorem dX12_next_89 : decode cX12_next 89 = .ok (.invokestatic 82, 3) := by decide +kernel
theorem dX12_next_92 : decode cX12_next 92 = .ok (.ifCond .eq 42, 3) := by decide +kernel
theorem dX12_next_95 : decode cX12_next 95 = .ok (.aload_n 0, 1) := by decide +kernel
theorem dX12_next_96 : decode cX12_next 96 = .ok (.iconst 1, 1) := by decide +kernel
theorem dX12_next_97 : decode cX12_next 97 = .ok (.putfield 140, 3) := by decide +kernel
theorem dX12_next_100 : decode cX12_next 100 = .ok (.aload_n 0, 1) := by decide +kernel
theorem dX12_next_101 : decode cX12_next 101 = .ok (.aload_n 0, 1) := by decide +kernel
theorem dX12_next_102 : decode cX12_next 102 = .ok (.getfield 130, 3) := by decide +kernel
theorem dX12_next_105 : decode cX12_next 105 = .ok (.invokevirtual 133, 3) := by decide +kernel
theorem dX12_next_108 : decode cX12_next 108 = .ok (.i2l, 1) := by decide +kernel
theorem dX12_next_109 : decode cX12_next 109 = .ok (.ldc2_w 143, 3) := by decide +kernel
theorem dX12_next_112 : decode cX12_next 112 = .ok (.ldc2_w 145, 3) := by decide +kernel
theorem dX12_next_115 : decode cX12_next 115 = .ok (.invokestatic 82, 3) := by decide +kernel
theorem dX12_next_118 : decode cX12_next 118 = .ok (.ifCond .eq 203, 3) := by decide +kernel
theorem dX12_next_121 : decode cX12_next 121 = .ok (.aload_n 0, 1) := by decide +kernel
theorem dX12_next_122 : decode cX12_next 122 = .ok (.dup, 1) := by decide +kernel
theorem dX12_next_123 : decode cX12_next 123 = .ok (.getfield 130, 3) := by decide +kernel
theorem dX12_next_126 : decode cX12_next 126 = .ok (.iconst 1, 1) := by decide +kernel
theorem dX12_next_127 : decode cX12_next 127 = .ok (.iadd, 1) := by decide +kernel
theorem dX12_next_128 : decode cX12_next 128 = .ok (.putfield 130, 3) := by decide +kernel
theorem dX12_next_131 : decode cX12_next 131 = .ok (.goto (-31), 3) := by decide +kernel
theorem dX12_next_134 : decode cX12_next 134 = .ok (.iload_n 1, 1) := by decide +kernel
theorem dX12_next_135 : decode cX12_next 135 = .ok (.i2l, 1) := by decide +kernel
theorem dX12_next_136 : decode cX12_next 136 = .ok (.ldc2_w 147, 3) := by decide +kernel
theorem dX12_next_139 : decode cX12_next 139 = .ok (.ldc2_w 149, 3) := by decide +kernel
theorem dX12_next_142 : decode cX12_next 142 = .ok (.invokestatic 82, 3) := by decide +kernel
theorem dX12_next_145 : decode cX12_next 145 = .ok (.ifCond .eq 107, 3) := by decide +kernel
theorem dX12_next_148 : decode cX12_next 148 = .ok (.aload_n 0, 1) := by decide +kernel
theorem dX12_next_149 : decode cX12_next 149 = .ok (.iconst 2, 1) := by decide +kernel
theorem dX12_next_150 : decode cX12_next 150 = .ok (.putfield 140, 3) := by decide +kernel
theorem dX12_next_153 : decode cX12_next 153 = .ok (.aload_n 0, 1) := by decide +kernel
theorem dX12_next_154 : decode cX12_next 154 = .ok (.lconst 0, 1) := by decide +kernel
theorem dX12_next_155 : decode cX12_next 155 = .ok (.putfield 151, 3) := by decide +kernel
theorem dX12_next_158 : decode cX12_next 158 = .ok (.iconst 0, 1) := by decide +kernel
theorem dX12_next_159 : decode cX12_next 159 = .ok (.istore_n 2, 1) := by decide +kernel
theorem dX12_next_160 : decode cX12_next 160 = .ok (.aload_n 0, 1) := by decide +kernel
theorem dX12_next_161 : decode cX12_next 161 = .ok (.aload_n 0, 1) := by decide +kernel
theorem dX12_next_162 : decode cX12_next 162 = .ok (.getfield 130, 3) := by decide +kernel
theorem dX12_next_165 : decode cX12_next 165 = .ok (.invokevirtual 133, 3) := by decide +kernel
theorem dX12_next_168 : decode cX12_next 168 = .ok (.i2l, 1) := by decide +kernel
theorem dX12_next_169 : decode cX12_next 169 = .ok (.ldc2_w 147, 3) := by decide +kernel
theorem dX12_next_172 : decode cX12_next 172 = .ok (.ldc2_w 149, 3) := by decide +kernel
theorem dX12_next_175 : decode cX12_next 175 = .ok (.invokestatic 82, 3) := by decide +kernel
theorem dX12_next_178 : decode cX12_next 178 = .ok (.ifCond .eq 57, 3) := by decide +kernel
theorem dX12_next_181 : decode cX12_next 181 = .ok (.aload_n 0, 1) := by decide +kernel
theorem dX12_next_182 : decode cX12_next 182 = .ok (.iload_n 2, 1) := by decide +kernel
theorem dX12_next_183 : decode cX12_next 183 = .ok (.iconst 4, 1) := by decide +kernel
theorem dX12_next_184 : decode cX12_next 184 = .ok (.if_icmp .ge 28, 3) := by decide +kernel
theorem dX12_next_187 : decode cX12_next 187 = .ok (.ldc2_w 155, 3) := by decide +kernel
theorem dX12_next_190 : decode cX12_next 190 = .ok (.aload_n 0, 1) := by decide +kernel
theorem dX12_next_191 : decode cX12_next 191 = .ok (.getfield 151, 3) := by decide +kernel
theorem dX12_next_194 : decode cX12_next 194 = .ok (.lmul, 1) := by decide +kernel
theorem dX12_next_195 : decode cX12_next 195 = .ok (.aload_n 0, 1) := by decide +kernel
theorem dX12_next_196 : decode cX12_next 196 = .ok (.aload_n 0, 1) := by decide +kernel
theorem dX12_next_197 : decode cX12_next 197 = .ok (.getfield 130, 3) := by decide +kernel
theorem dX12_next_200 : decode cX12_next 200 = .ok (.invokevirtual 133, 3) := by decide +kernel
theorem dX12_next_203 : decode cX12_next 203 = .ok (.i2l, 1) := by decide +kernel
theorem dX12_next_204 : decode cX12_next 204 = .ok (.ladd, 1) := by decide +kernel
theorem dX12_next_205 : decode cX12_next 205 = .ok (.ldc2_w 147, 3) := by decide +kernel
theorem dX12_next_208 : decode cX12_next 208 = .ok (.lsub, 1) := by decide +kernel
theorem dX12_next_209 : decode cX12_next 209 = .ok (.goto 7, 3) := by decide +kernel
theorem dX12_next_212 : decode cX12_next 212 = .ok (.aload_n 0, 1) := by decide +kernel
theorem dX12_next_213 : decode cX12_next 213 = .ok (.getfield 151, 3) := by decide +kernel
theorem dX12_next_216 : decode cX12_next 216 = .ok (.putfield 151, 3) := by decide +kernel
theorem dX12_next_219 : decode cX12_next 219 = .ok (.iinc 2 1, 3) := by decide +kernel
theorem dX12_next_222 : decode cX12_next 222 = .ok (.aload_n 0, 1) := by decide +kernel
theorem dX12_next_223 : decode cX12_next 223 = .ok (.dup, 1) := by decide +kernel
theorem dX12_next_224 : decode cX12_next 224 = .ok (.getfield 130, 3) := by decide +kernel
theorem dX12_next_227 : decode cX12_next 227 = .ok (.iconst 1, 1) := by decide +kernel
theorem dX12_next_228 : decode cX12_next 228 = .ok (.iadd, 1) := by decide +kernel
theorem dX12_next_229 : decode cX12_next 229 = .ok (.putfield 130, 3) := by decide +kernel
theorem dX12_next_232 : decode cX12_next 232 = .ok (.goto (-72), 3) := by decide +kernel
theorem dX12_next_235 : decode cX12_next 235 = .ok (.aload_n 0, 1) := by decide +kernel
theorem dX12_next_236 : decode cX12_next 236 = .ok (.iload_n 2, 1) := by decide +kernel
theorem dX12_next_237 : decode cX12_next 237 = .ok (.iconst 4, 1) := by decide +kernel
theorem dX12_next_238 : decode cX12_next 238 = .ok (.if_icmp .le 7, 3) := by decide +kernel
theorem dX12_next_241 : decode cX12_next 241 = .ok (.iconst 4, 1) := by decide +kernel
theorem dX12_next_242 : decode cX12_next 242 = .ok (.goto 4, 3) := by decide +kernel
theorem dX12_next_245 : decode cX12_next 245 = .ok (.iconst 2, 1) := by decide +kernel
theorem dX12_next_246 : decode cX12_next 246 = .ok (.putfield 140, 3) := by decide +kernel
theorem dX12_next_249 : decode cX12_next 249 = .ok (.goto 72, 3) := by decide +kernel
theorem dX12_next_252 : decode cX12_next 252 = .ok (.iload_n 1, 1) := by decide +kernel
theorem dX12_next_253 : decode cX12_next 253 = .ok (.bipush 40, 2) := by decide +kernel
theorem dX12_next_255 : decode cX12_next 255 = .ok (.if_icmp .eq 45, 3) := by decide +kernel
theorem dX12_next_258 : decode cX12_next 258 = .ok (.iload_n 1, 1) := by decide +kernel
theorem dX12_next_259 : decode cX12_next 259 = .ok (.bipush 41, 2) := by decide +kernel
theorem dX12_next_261 : decode cX12_next 261 = .ok (.if_icmp .eq 39, 3) := by decide +kernel
theorem dX12_next_264 : decode cX12_next 264 = .ok (.iload_n 1, 1) := by decide +kernel
theorem dX12_next_265 : decode cX12_next 265 = .ok (.bipush 59, 2) := by decide +kernel
theorem dX12_next_267 : decode cX12_next 267 = .ok (.if_icmp .eq 33, 3) := by decide +kernel
theorem dX12_next_270 : decode cX12_next 270 = .ok (.iload_n 1, 1) := by decide +kernel
theorem dX12_next_271 : decode cX12_next 271 = .ok (.bipush 43, 2) := by decide +kernel
theorem dX12_next_273 : decode cX12_next 273 = .ok (.if_icmp .eq 27, 3) := by decide +kernel
theorem dX12_next_276 : decode cX12_next 276 = .ok (.iload_n 1, 1) := by decide +kernel
theorem dX12_next_277 : decode cX12_next 277 = .ok (.bipush 45, 2) := by decide +kernel
theorem dX12_next_279 : decode cX12_next 279 = .ok (.if_icmp .eq 21, 3) := by decide +kernel
theorem dX12_next_282 : decode cX12_next 282 = .ok (.iload_n 1, 1) := by decide +kernel
theorem dX12_next_283 : decode cX12_next 283 = .ok (.bipush 42, 2) := by decide +kernel
theorem dX12_next_285 : decode cX12_next 285 = .ok (.if_icmp .eq 15, 3) := by decide +kernel
theorem dX12_next_288 : decode cX12_next 288 = .ok (.iload_n 1, 1) := by decide +kernel
theorem dX12_next_289 : decode cX12_next 289 = .ok (.bipush 60, 2) := by decide +kernel
theorem dX12_next_291 : decode cX12_next 291 = .ok (.if_icmp .eq 9, 3) := by decide +kernel
theorem dX12_next_294 : decode cX12_next 294 = .ok (.iload_n 1, 1) := by decide +kernel
theorem dX12_next_295 : decode cX12_next 295 = .ok (.bipush 61, 2) := by decide +kernel
theorem dX12_next_297 : decode cX12_next 297 = .ok (.if_icmp .ne 24, 3) := by decide +kernel
theorem dX12_next_300 : decode cX12_next 300 = .ok (.aload_n 0, 1) := by decide +kernel
theorem dX12_next_301 : decode cX12_next 301 = .ok (.iconst 3, 1) := by decide +kernel
theorem dX12_next_302 : decode cX12_next 302 = .ok (.putfield 140, 3) := by decide +kernel
theorem dX12_next_305 : decode cX12_next 305 = .ok (.aload_n 0, 1) := by decide +kernel
theorem dX12_next_306 : decode cX12_next 306 = .ok (.iload_n 1, 1) := by decide +kernel
theorem dX12_next_307 : decode cX12_next 307 = .ok (.i2l, 1) := by decide +kernel
theorem dX12_next_308 : decode cX12_next 308 = .ok (.putfield 151, 3) := by decide +kernel
theorem dX12_next_311 : decode cX12_next 311 = .ok (.aload_n 0, 1) := by decide +kernel
theorem dX12_next_312 : decode cX12_next 312 = .ok (.dup, 1) := by decide +kernel
theorem dX12_next_313 : decode cX12_next 313 = .ok (.getfield 130, 3) := by decide +kernel
theorem dX12_next_316 : decode cX12_next 316 = .ok (.iconst 1, 1) := by decide +kernel
theorem dX12_next_317 : decode cX12_next 317 = .ok (.iadd, 1) := by decide +kernel
theorem dX12_next_318 : decode cX12_next 318 = .ok (.putfield 130, 3) := by decide +kernel
theorem dX12_next_321 : decode cX12_next 321 = .ok (.return_, 1) := by decide +kernel
theorem dX12_fail_0 : decode cX12_fail 0 = .ok (.aload_n 0, 1) := by decide +kernel
theorem dX12_fail_1 : decode cX12_fail 1 = .ok (.getfield 157, 3) := by decide +kernel
theorem dX12_fail_4 : decode cX12_fail 4 = .ok (.ifCond .ne 16, 3) := by decide +kernel
theorem dX12_fail_7 : decode cX12_fail 7 = .ok (.aload_n 0, 1) := by decide +kernel
theorem dX12_fail_8 : decode cX12_fail 8 = .ok (.iconst 1, 1) := by decide +kernel
theorem dX12_fail_9 : decode cX12_fail 9 = .ok (.putfield 157, 3) := by decide +kernel
theorem dX12_fail_12 : decode cX12_fail 12 = .ok (.aload_n 0, 1) := by decide +kernel
theorem dX12_fail_13 : decode cX12_fail 13 = .ok (.aload_n 0, 1) := by decide +kernel
theorem dX12_fail_14 : decode cX12_fail 14 = .ok (.getfield 137, 3) := by decide +kernel
theorem dX12_fail_17 : decode cX12_fail 17 = .ok (.putfield 161, 3) := by decide +kernel
theorem dX12_fail_20 : decode cX12_fail 20 = .ok (.return_, 1) := by decide +kernel
theorem dX12_isLetter_0 : decode cX12_isLetter 0 = .ok (.aload_n 0, 1) := by decide +kernel
theorem dX12_isLetter_1 : decode cX12_isLetter 1 = .ok (.getfield 137, 3) := by decide +kernel
theorem dX12_isLetter_4 : decode cX12_isLetter 4 = .ok (.iload_n 1, 1) := by decide +kernel
theorem dX12_isLetter_5 : decode cX12_isLetter 5 = .ok (.iadd, 1) := by decide +kernel
theorem dX12_isLetter_6 : decode cX12_isLetter 6 = .ok (.aload_n 0, 1) := by decide +kernel
theorem dX12_isLetter_7 : decode cX12_isLetter 7 = .ok (.getfield 130, 3) := by decide +kernel
theorem dX12_isLetter_10 : decode cX12_isLetter 10 = .ok (.if_icmp .ge 25, 3) := by decide +kernel
theorem dX12_isLetter_13 : decode cX12_isLetter 13 = .ok (.aload_n 0, 1) := by decide +kernel
theorem dX12_isLetter_14 : decode cX12_isLetter 14 = .ok (.aload_n 0, 1) := by decide +kernel
theorem dX12_isLetter_15 : decode cX12_isLetter 15 = .ok (.getfield 137, 3) := by decide +kernel
theorem dX12_isLetter_18 : decode cX12_isLetter 18 = .ok (.iload_n 1, 1) := by decide +kernel
theorem dX12_isLetter_19 : decode cX12_isLetter 19 = .ok (.iadd, 1) := by decide +kernel
theorem dX12_isLetter_20 : decode cX12_isLetter 20 = .ok (.invokevirtual 133, 3) := by decide +kernel
theorem dX12_isLetter_23 : decode cX12_isLetter 23 = .ok (.iload_n 2, 1) := by decide +kernel
theorem dX12_isLetter_24 : decode cX12_isLetter 24 = .ok (.if_icmp .ne 7, 3) := by decide +kernel
theorem dX12_isLetter_27 : decode cX12_isLetter 27 = .ok (.iconst 1, 1) := by decide +kernel
theorem dX12_isLetter_28 : decode cX12_isLetter 28 = .ok (.goto 16, 3) := by decide +kernel
theorem dX12_isLetter_31 : decode cX12_isLetter 31 = .ok (.iconst 0, 1) := by decide +kernel
theorem dX12_isLetter_32 : decode cX12_isLetter 32 = .ok (.goto 12, 3) := by decide +kernel
theorem dX12_isLetter_35 : decode cX12_isLetter 35 = .ok (.iload_n 2, 1) := by decide +kernel
theorem dX12_isLetter_36 : decode cX12_isLetter 36 = .ok (.ifCond .ne 7, 3) := by decide +kernel
theorem dX12_isLetter_39 : decode cX12_isLetter 39 = .ok (.iconst 1, 1) := by decide +kernel
theorem dX12_isLetter_40 : decode cX12_isLetter 40 = .ok (.goto 4, 3) := by decide +kernel
theorem dX12_isLetter_43 : decode cX12_isLetter 43 = .ok (.iconst 0, 1) := by decide +kernel
theorem dX12_isLetter_44 : decode cX12_isLetter 44 = .ok (.ireturn, 1) := by decide +kernel
theorem dX12_isWord_0 : decode cX12_isWord 0 = .ok (.aload_n 0, 1) := by decide +kernel
theorem dX12_isWord_1 : decode cX12_isWord 1 = .ok (.getfield 157, 3) := by decide +kernel
theorem dX12_isWord_4 : decode cX12_isWord 4 = .ok (.ifCond .ne 108, 3) := by decide +kernel
theorem dX12_isWord_7 : decode cX12_isWord 7 = .ok (.aload_n 0, 1) := by decide +kernel
theorem dX12_isWord_8 : decode cX12_isWord 8 = .ok (.getfield 140, 3) := by decide +kernel
theorem dX12_isWord_11 : decode cX12_isWord 11 = .ok (.iconst 1, 1) := by decide +kernel
theorem dX12_isWord_12 : decode cX12_isWord 12 = .ok (.if_icmp .ne 100, 3) := by decide +kernel
theorem dX12_isWord_15 : decode cX12_isWord 15 = .ok (.aload_n 0, 1) := by decide +kernel
theorem dX12_isWord_16 : decode cX12_isWord 16 = .ok (.getfield 130, 3) := by decide +kernel
theorem dX12_isWord_19 : decode cX12_isWord 19 = .ok (.aload_n 0, 1) := by decide +kernel
theorem dX12_isWord_20 : decode cX12_isWord 20 = .ok (.getfield 137, 3) := by decide +kernel
theorem dX12_isWord_23 : decode cX12_isWord 23 = .ok (.bipush 8, 2) := by decide +kernel
theorem dX12_isWord_25 : decode cX12_isWord 25 = .ok (.iadd, 1) := by decide +kernel
theorem dX12_isWord_26 : decode cX12_isWord 26 = .ok (.if_icmp .gt 86, 3) := by decide +kernel
theorem dX12_isWord_29 : decode cX12_isWord 29 = .ok (.aload_n 0, 1) := by decide +kernel
theorem dX12_isWord_30 : decode cX12_isWord 30 = .ok (.iconst 0, 1) := by decide +kernel
theorem dX12_isWord_31 : decode cX12_isWord 31 = .ok (.iload_n 1, 1) := by decide +kernel
theorem dX12_isWord_32 : decode cX12_isWord 32 = .ok (.invokevirtual 164, 3) := by decide +kernel
theorem dX12_isWord_35 : decode cX12_isWord 35 = .ok (.ifCond .eq 77, 3) := by decide +kernel
theorem dX12_isWord_38 : decode cX12_isWord 38 = .ok (.aload_n 0, 1) := by decide +kernel
theorem dX12_isWord_39 : decode cX12_isWord 39 = .ok (.iconst 1, 1) := by decide +kernel
theorem dX12_isWord_40 : decode cX12_isWord 40 = .ok (.iload_n 2, 1) := by decide +kernel
theorem dX12_isWord_41 : decode cX12_isWord 41 = .ok (.invokevirtual 164, 3) := by decide +kernel
theorem dX12_isWord_44 : decode cX12_isWord 44 = .ok (.ifCond .eq 68, 3) := by decide +kernel
theorem dX12_isWord_47 : decode cX12_isWord 47 = .ok (.aload_n 0, 1) := by decide +kernel
theorem dX12_isWord_48 : decode cX12_isWord 48 = .ok (.iconst 2, 1) := by decide +kernel
theorem dX12_isWord_49 : decode cX12_isWord 49 = .ok (.iload_n 3, 1) := by decide +kernel
theorem dX12_isWord_50 : decode cX12_isWord 50 = .ok (.invokevirtual 164, 3) := by decide +kernel
theorem dX12_isWord_53 : decode cX12_isWord 53 = .ok (.ifCond .eq 59, 3) := by decide +kernel
theorem dX12_isWord_56 : decode cX12_isWord 56 = .ok (.aload_n 0, 1) := by decide +kernel
theorem dX12_isWord_57 : decode cX12_isWord 57 = .ok (.iconst 3, 1) := by decide +kernel
theorem dX12_isWord_58 : decode cX12_isWord 58 = .ok (.iload 4, 2) := by decide +kernel
theorem dX12_isWord_60 : decode cX12_isWord 60 = .ok (.invokevirtual 164, 3) := by decide +kernel
theorem dX12_isWord_63 : decode cX12_isWord 63 = .ok (.ifCond .eq 49, 3) := by decide +kernel
theorem dX12_isWord_66 : decode cX12_isWord 66 = .ok (.aload_n 0, 1) := by decide +kernel
theorem dX12_isWord_67 : decode cX12_isWord 67 = .ok (.iconst 4, 1) := by decide +kernel
theorem dX12_isWord_68 : decode cX12_isWord 68 = .ok (.iload 5, 2) := by decide +kernel
theorem dX12_isWord_70 : decode cX12_isWord 70 = .ok (.invokevirtual 164, 3) := by decide +kernel
theorem dX12_isWord_73 : decode cX12_isWord 73 = .ok (.ifCond .eq 39, 3) := by decide +kernel
theorem dX12_isWord_76 : decode cX12_isWord 76 = .ok (.aload_n 0, 1) := by decide +kernel
theorem dX12_isWord_77 : decode cX12_isWord 77 = .ok (.iconst 5, 1) := by decide +kernel
theorem dX12_isWord_78 : decode cX12_isWord 78 = .ok (.iload 6, 2) := by decide +kernel
theorem dX12_isWord_80 : decode cX12_isWord 80 = .ok (.invokevirtual 164, 3) := by decide +kernel
theorem dX12_isWord_83 : decode cX12_isWord 83 = .ok (.ifCond .eq 29, 3) := by decide +kernel
theorem dX12_isWord_86 : decode cX12_isWord 86 = .ok (.aload_n 0, 1) := by decide +kernel
theorem dX12_isWord_87 : decode cX12_isWord 87 = .ok (.bipush 6, 2) := by decide +kernel
theorem dX12_isWord_89 : decode cX12_isWord 89 = .ok (.iload 7, 2) := by decide +kernel
theorem dX12_isWord_91 : decode cX12_isWord 91 = .ok (.invokevirtual 164, 3) := by decide +kernel
theorem dX12_isWord_94 : decode cX12_isWord 94 = .ok (.ifCond .eq 18, 3) := by decide +kernel
theorem dX12_isWord_97 : decode cX12_isWord 97 = .ok (.aload_n 0, 1) := by decide +kernel
theorem dX12_isWord_98 : decode cX12_isWord 98 = .ok (.bipush 7, 2) := by decide +kernel
theorem dX12_isWord_100 : decode cX12_isWord 100 = .ok (.iload 8, 2) := by decide +kernel
theorem dX12_isWord_102 : decode cX12_isWord 102 = .ok (.invokevirtual 164, 3) := by decide +kernel
theorem dX12_isWord_105 : decode cX12_isWord 105 = .ok (.ifCond .eq 7, 3) := by decide +kernel
theorem dX12_isWord_108 : decode cX12_isWord 108 = .ok (.iconst 1, 1) := by decide +kernel
theorem dX12_isWord_109 : decode cX12_isWord 109 = .ok (.goto 4, 3) := by decide +kernel
theorem dX12_isWord_112 : decode cX12_isWord 112 = .ok (.iconst 0, 1) := by decide +kernel
theorem dX12_isWord_113 : decode cX12_isWord 113 = .ok (.ireturn, 1) := by decide +kernel
theorem dX12_isSign_0 : decode cX12_isSign 0 = .ok (.aload_n 0, 1) := by decide +kernel
theorem dX12_isSign_1 : decode cX12_isSign 1 = .ok (.getfield 157, 3) := by decide +kernel
theorem dX12_isSign_4 : decode cX12_isSign 4 = .ok (.ifCond .ne 25, 3) := by decide +kernel
theorem dX12_isSign_7 : decode cX12_isSign 7 = .ok (.aload_n 0, 1) := by decide +kernel
theorem dX12_isSign_8 : decode cX12_isSign 8 = .ok (.getfield 140, 3) := by decide +kernel
theorem dX12_isSign_11 : decode cX12_isSign 11 = .ok (.iconst 3, 1) := by decide +kernel
theorem dX12_isSign_12 : decode cX12_isSign 12 = .ok (.if_icmp .ne 17, 3) := by decide +kernel
theorem dX12_isSign_15 : decode cX12_isSign 15 = .ok (.aload_n 0, 1) := by decide +kernel
theorem dX12_isSign_16 : decode cX12_isSign 16 = .ok (.getfield 151, 3) := by decide +kernel
theorem dX12_isSign_19 : decode cX12_isSign 19 = .ok (.iload_n 1, 1) := by decide +kernel
theorem dX12_isSign_20 : decode cX12_isSign 20 = .ok (.i2l, 1) := by decide +kernel
theorem dX12_isSign_21 : decode cX12_isSign 21 = .ok (.lcmp, 1) := by decide +kernel
theorem dX12_isSign_22 : decode cX12_isSign 22 = .ok (.ifCond .ne 7, 3) := by decide +kernel
theorem dX12_isSign_25 : decode cX12_isSign 25 = .ok (.iconst 1, 1) := by decide +kernel
theorem dX12_isSign_26 : decode cX12_isSign 26 = .ok (.goto 4, 3) := by decide +kernel
theorem dX12_isSign_29 : decode cX12_isSign 29 = .ok (.iconst 0, 1) := by decide +kernel
theorem dX12_isSign_30 : decode cX12_isSign 30 = .ok (.ireturn, 1) := by decide +kernel
theorem dX12_opens_0 : decode cX12_opens 0 = .ok (.aload_n 0, 1) := by decide +kernel
theorem dX12_opens_1 : decode cX12_opens 1 = .ok (.getfield 168, 3) := by decide +kernel
theorem dX12_opens_4 : decode cX12_opens 4 = .ok (.iconst 5, 1) := by decide +kernel
theorem dX12_opens_5 : decode cX12_opens 5 = .ok (.if_icmp .ne 9, 3) := by decide +kernel
theorem dX12_opens_8 : decode cX12_opens 8 = .ok (.aload_n 0, 1) := by decide +kernel
theorem dX12_opens_9 : decode cX12_opens 9 = .ok (.invokevirtual 171, 3) := by decide +kernel
theorem dX12_opens_12 : decode cX12_opens 12 = .ok (.iconst 0, 1) := by decide +kernel
theorem dX12_opens_13 : decode cX12_opens 13 = .ok (.ireturn, 1) := by decide +kernel
theorem dX12_opens_14 : decode cX12_opens 14 = .ok (.aload_n 0, 1) := by decide +kernel
theorem dX12_opens_15 : decode cX12_opens 15 = .ok (.dup, 1) := by decide +kernel
theorem dX12_opens_16 : decode cX12_opens 16 = .ok (.getfield 168, 3) := by decide +kernel
theorem dX12_opens_19 : decode cX12_opens 19 = .ok (.iconst 1, 1) := by decide +kernel
theorem dX12_opens_20 : decode cX12_opens 20 = .ok (.iadd, 1) := by decide +kernel
theorem dX12_opens_21 : decode cX12_opens 21 = .ok (.putfield 168, 3) := by decide +kernel
theorem dX12_opens_24 : decode cX12_opens 24 = .ok (.aload_n 0, 1) := by decide +kernel
theorem dX12_opens_25 : decode cX12_opens 25 = .ok (.invokevirtual 174, 3) := by decide +kernel
theorem dX12_opens_28 : decode cX12_opens 28 = .ok (.iconst 1, 1) := by decide +kernel
theorem dX12_opens_29 : decode cX12_opens 29 = .ok (.ireturn, 1) := by decide +kernel
theorem dX12_name_0 : decode cX12_name 0 = .ok (.aload_n 0, 1) := by decide +kernel
theorem dX12_name_1 : decode cX12_name 1 = .ok (.bipush 102, 2) := by decide +kernel
theorem dX12_name_3 : decode cX12_name 3 = .ok (.bipush 97, 2) := by decide +kernel
theorem dX12_name_5 : decode cX12_name 5 = .ok (.bipush 114, 2) := by decide +kernel
theorem dX12_name_7 : decode cX12_name 7 = .ok (.iconst 0, 1) := by decide +kernel
theorem dX12_name_8 : decode cX12_name 8 = .ok (.iconst 0, 1) := by decide +kernel
theorem dX12_name_9 : decode cX12_name 9 = .ok (.iconst 0, 1) := by decide +kernel
theorem dX12_name_10 : decode cX12_name 10 = .ok (.iconst 0, 1) := by decide +kernel
theorem dX12_name_11 : decode cX12_name 11 = .ok (.iconst 0, 1) := by decide +kernel
theorem dX12_name_12 : decode cX12_name 12 = .ok (.invokevirtual 177, 3) := by decide +kernel
theorem dX12_name_15 : decode cX12_name 15 = .ok (.ifCond .eq 8, 3) := by decide +kernel
theorem dX12_name_18 : decode cX12_name 18 = .ok (.aload_n 0, 1) := by decide +kernel
theorem dX12_name_19 : decode cX12_name 19 = .ok (.getfield 181, 3) := by decide +kernel
theorem dX12_name_22 : decode cX12_name 22 = .ok (.ireturn, 1) := by decide +kernel
theorem dX12_name_23 : decode cX12_name 23 = .ok (.aload_n 0, 1) := by decide +kernel
theorem dX12_name_24 : decode cX12_name 24 = .ok (.bipush 119, 2) := by decide +kernel
theorem dX12_name_26 : decode cX12_name 26 = .ok (.bipush 97, 2) := by decide +kernel
theorem dX12_name_28 : decode cX12_name 28 = .ok (.bipush 114, 2) := by decide +kernel
theorem dX12_name_30 : decode cX12_name 30 = .ok (.bipush 109, 2) := by decide +kernel
theorem dX12_name_32 : decode cX12_name 32 = .ok (.iconst 0, 1) := by decide +kernel
theorem dX12_name_33 : decode cX12_name 33 = .ok (.iconst 0, 1) := by decide +kernel
theorem dX12_name_34 : decode cX12_name 34 = .ok (.iconst 0, 1) := by decide +kernel
theorem dX12_name_35 : decode cX12_name 35 = .ok (.iconst 0, 1) := by decide +kernel
theorem dX12_name_36 : decode cX12_name 36 = .ok (.invokevirtual 177, 3) := by decide +kernel
theorem dX12_name_39 : decode cX12_name 39 = .ok (.ifCond .eq 8, 3) := by decide +kernel
theorem dX12_name_42 : decode cX12_name 42 = .ok (.aload_n 0, 1) := by decide +kernel
theorem dX12_name_43 : decode cX12_name 43 = .ok (.getfield 184, 3) := by decide +kernel
theorem dX12_name_46 : decode cX12_name 46 = .ok (.ireturn, 1) := by decide +kernel
theorem dX12_name_47 : decode cX12_name 47 = .ok (.aload_n 0, 1) := by decide +kernel
theorem dX12_name_48 : decode cX12_name 48 = .ok (.bipush 108, 2) := by decide +kernel
theorem dX12_name_50 : decode cX12_name 50 = .ok (.bipush 101, 2) := by decide +kernel
theorem dX12_name_52 : decode cX12_name 52 = .ok (.bipush 103, 2) := by decide +kernel
theorem dX12_name_54 : decode cX12_name 54 = .ok (.bipush 115, 2) := by decide +kernel
theorem dX12_name_56 : decode cX12_name 56 = .ok (.iconst 0, 1) := by decide +kernel
theorem dX12_name_57 : decode cX12_name 57 = .ok (.iconst 0, 1) := by decide +kernel
theorem dX12_name_58 : decode cX12_name 58 = .ok (.iconst 0, 1) := by decide +kernel
theorem dX12_name_59 : decode cX12_name 59 = .ok (.iconst 0, 1) := by decide +kernel
theorem dX12_name_60 : decode cX12_name 60 = .ok (.invokevirtual 177, 3) := by decide +kernel
theorem dX12_name_63 : decode cX12_name 63 = .ok (.ifCond .eq 8, 3) := by decide +kernel
theorem dX12_name_66 : decode cX12_name 66 = .ok (.aload_n 0, 1) := by decide +kernel
theorem dX12_name_67 : decode cX12_name 67 = .ok (.getfield 187, 3) := by decide +kernel
theorem dX12_name_70 : decode cX12_name 70 = .ok (.ireturn, 1) := by decide +kernel
theorem dX12_name_71 : decode cX12_name 71 = .ok (.aload_n 0, 1) := by decide +kernel
theorem dX12_name_72 : decode cX12_name 72 = .ok (.bipush 113, 2) := by decide +kernel
theorem dX12_name_74 : decode cX12_name 74 = .ok (.bipush 117, 2) := by decide +kernel
theorem dX12_name_76 : decode cX12_name 76 = .ok (.bipush 105, 2) := by decide +kernel
theorem dX12_name_78 : decode cX12_name 78 = .ok (.bipush 99, 2) := by decide +kernel
theorem dX12_name_80 : decode cX12_name 80 = .ok (.bipush 107, 2) := by decide +kernel
theorem dX12_name_82 : decode cX12_name 82 = .ok (.iconst 0, 1) := by decide +kernel
theorem dX12_name_83 : decode cX12_name 83 = .ok (.iconst 0, 1) := by decide +kernel
theorem dX12_name_84 : decode cX12_name 84 = .ok (.iconst 0, 1) := by decide +kernel
theorem dX12_name_85 : decode cX12_name 85 = .ok (.invokevirtual 177, 3) := by decide +kernel
theorem dX12_name_88 : decode cX12_name 88 = .ok (.ifCond .eq 8, 3) := by decide +kernel
theorem dX12_name_91 : decode cX12_name 91 = .ok (.aload_n 0, 1) := by decide +kernel
theorem dX12_name_92 : decode cX12_name 92 = .ok (.getfield 190, 3) := by decide +kernel
theorem dX12_name_95 : decode cX12_name 95 = .ok (.ireturn, 1) := by decide +kernel
theorem dX12_name_96 : decode cX12_name 96 = .ok (.aload_n 0, 1) := by decide +kernel
theorem dX12_name_97 : decode cX12_name 97 = .ok (.bipush 110, 2) := by decide +kernel
theorem dX12_name_99 : decode cX12_name 99 = .ok (.bipush 117, 2) := by decide +kernel
theorem dX12_name_101 : decode cX12_name 101 = .ok (.bipush 109, 2) := by decide +kernel
theorem dX12_name_103 : decode cX12_name 103 = .ok (.bipush 98, 2) := by decide +kernel
theorem dX12_name_105 : decode cX12_name 105 = .ok (.bipush 101, 2) := by decide +kernel
theorem dX12_name_107 : decode cX12_name 107 = .ok (.bipush 114, 2) := by decide +kernel
theorem dX12_name_109 : decode cX12_name 109 = .ok (.iconst 0, 1) := by decide +kernel
theorem dX12_name_110 : decode cX12_name 110 = .ok (.iconst 0, 1) := by decide +kernel
theorem dX12_name_111 : decode cX12_name 111 = .ok (.invokevirtual 177, 3) := by decide +kernel
theorem dX12_name_114 : decode cX12_name 114 = .ok (.ifCond .eq 8, 3) := by decide +kernel
theorem dX12_name_117 : decode cX12_name 117 = .ok (.aload_n 0, 1) := by decide +kernel
theorem dX12_name_118 : decode cX12_name 118 = .ok (.getfield 193, 3) := by decide +kernel
theorem dX12_name_121 : decode cX12_name 121 = .ok (.ireturn, 1) := by decide +kernel
theorem dX12_name_122 : decode cX12_name 122 = .ok (.aload_n 0, 1) := by decide +kernel
theorem dX12_name_123 : decode cX12_name 123 = .ok (.bipush 99, 2) := by decide +kernel
theorem dX12_name_125 : decode cX12_name 125 = .ok (.bipush 101, 2) := by decide +kernel
theorem dX12_name_127 : decode cX12_name 127 = .ok (.bipush 108, 2) := by decide +kernel
theorem dX12_name_129 : decode cX12_name 129 = .ok (.bipush 108, 2) := by decide +kernel
theorem dX12_name_131 : decode cX12_name 131 = .ok (.iconst 0, 1) := by decide +kernel
theorem dX12_name_132 : decode cX12_name 132 = .ok (.iconst 0, 1) := by decide +kernel
theorem dX12_name_133 : decode cX12_name 133 = .ok (.iconst 0, 1) := by decide +kernel
theorem dX12_name_134 : decode cX12_name 134 = .ok (.iconst 0, 1) := by decide +kernel
theorem dX12_name_135 : decode cX12_name 135 = .ok (.invokevirtual 177, 3) := by decide +kernel
theorem dX12_name_138 : decode cX12_name 138 = .ok (.ifCond .eq 8, 3) := by decide +kernel
theorem dX12_name_141 : decode cX12_name 141 = .ok (.aload_n 0, 1) := by decide +kernel
theorem dX12_name_142 : decode cX12_name 142 = .ok (.getfield 196, 3) := by decide +kernel
theorem dX12_name_145 : decode cX12_name 145 = .ok (.ireturn, 1) := by decide +kernel
theorem dX12_name_146 : decode cX12_name 146 = .ok (.aload_n 0, 1) := by decide +kernel
theorem dX12_name_147 : decode cX12_name 147 = .ok (.invokevirtual 171, 3) := by decide +kernel
theorem dX12_name_150 : decode cX12_name 150 = .ok (.iconst 0, 1) := by decide +kernel
theorem dX12_name_151 : decode cX12_name 151 = .ok (.ireturn, 1) := by decide +kernel
theorem dX12_atom_0 : decode cX12_atom 0 = .ok (.iconst 0, 1) := by decide +kernel
theorem dX12_atom_1 : decode cX12_atom 1 = .ok (.istore_n 1, 1) := by decide +kernel
theorem dX12_atom_2 : decode cX12_atom 2 = .ok (.aload_n 0, 1) := by decide +kernel
theorem dX12_atom_3 : decode cX12_atom 3 = .ok (.bipush 45, 2) := by decide +kernel
theorem dX12_atom_5 : decode cX12_atom 5 = .ok (.invokevirtual 199, 3) := by decide +kernel
theorem dX12_atom_8 : decode cX12_atom 8 = .ok (.ifCond .eq 29, 3) := by decide +kernel
theorem dX12_atom_11 : decode cX12_atom 11 = .ok (.aload_n 0, 1) := by decide +kernel
theorem dX12_atom_12 : decode cX12_atom 12 = .ok (.invokevirtual 202, 3) := by decide +kernel
theorem dX12_atom_15 : decode cX12_atom 15 = .ok (.ifCond .eq 146, 3) := by decide +kernel
theorem dX12_atom_18 : decode cX12_atom 18 = .ok (.aload_n 0, 1) := by decide +kernel
theorem dX12_atom_19 : decode cX12_atom 19 = .ok (.invokevirtual 206, 3) := by decide +kernel
theorem dX12_atom_22 : decode cX12_atom 22 = .ok (.ineg, 1) := by decide +kernel
theorem dX12_atom_23 : decode cX12_atom 23 = .ok (.istore_n 1, 1) := by decide +kernel
theorem dX12_atom_24 : decode cX12_atom 24 = .ok (.aload_n 0, 1) := by decide +kernel
theorem dX12_atom_25 : decode cX12_atom 25 = .ok (.dup, 1) := by decide +kernel
theorem dX12_atom_26 : decode cX12_atom 26 = .ok (.getfield 168, 3) := by decide +kernel
theorem dX12_atom_29 : decode cX12_atom 29 = .ok (.iconst 1, 1) := by decide +kernel
theorem dX12_atom_30 : decode cX12_atom 30 = .ok (.isub, 1) := by decide +kernel
theorem dX12_atom_31 : decode cX12_atom 31 = .ok (.putfield 168, 3) := by decide +kernel
theorem dX12_atom_34 : decode cX12_atom 34 = .ok (.goto 127, 3) := by decide +kernel
theorem dX12_atom_37 : decode cX12_atom 37 = .ok (.aload_n 0, 1) := by decide +kernel
theorem dX12_atom_38 : decode cX12_atom 38 = .ok (.bipush 40, 2) := by decide +kernel
theorem dX12_atom_40 : decode cX12_atom 40 = .ok (.invokevirtual 199, 3) := by decide +kernel
theorem dX12_atom_43 : decode cX12_atom 43 = .ok (.ifCond .eq 52, 3) := by decide +kernel
theorem dX12_atom_46 : decode cX12_atom 46 = .ok (.aload_n 0, 1) := by decide +kernel
theorem dX12_atom_47 : decode cX12_atom 47 = .ok (.invokevirtual 202, 3) := by decide +kernel
theorem dX12_atom_50 : decode cX12_atom 50 = .ok (.ifCond .eq 111, 3) := by decide +kernel
theorem dX12_atom_53 : decode cX12_atom 53 = .ok (.aload_n 0, 1) := by decide +kernel
theorem dX12_atom_54 : decode cX12_atom 54 = .ok (.invokevirtual 210, 3) := by decide +kernel
theorem dX12_atom_57 : decode cX12_atom 57 = .ok (.istore_n 1, 1) := by decide +kernel
theorem dX12_atom_58 : decode cX12_atom 58 = .ok (.aload_n 0, 1) := by decide +kernel
theorem dX12_atom_59 : decode cX12_atom 59 = .ok (.bipush 41, 2) := by decide +kernel
theorem dX12_atom_61 : decode cX12_atom 61 = .ok (.invokevirtual 199, 3) := by decide +kernel
theorem dX12_atom_64 : decode cX12_atom 64 = .ok (.ifCond .ne 7, 3) := by decide +kernel
theorem dX12_atom_67 : decode cX12_atom 67 = .ok (.aload_n 0, 1) := by decide +kernel
theorem dX12_atom_68 : decode cX12_atom 68 = .ok (.invokevirtual 171, 3) := by decide +kernel
theorem dX12_atom_71 : decode cX12_atom 71 = .ok (.aload_n 0, 1) := by decide +kernel
theorem dX12_atom_72 : decode cX12_atom 72 = .ok (.dup, 1) := by decide +kernel
theorem dX12_atom_73 : decode cX12_atom 73 = .ok (.getfield 168, 3) := by decide +kernel
theorem dX12_atom_76 : decode cX12_atom 76 = .ok (.iconst 1, 1) := by decide +kernel
theorem dX12_atom_77 : decode cX12_atom 77 = .ok (.isub, 1) := by decide +kernel
theorem dX12_atom_78 : decode cX12_atom 78 = .ok (.putfield 168, 3) := by decide +kernel
theorem dX12_atom_81 : decode cX12_atom 81 = .ok (.aload_n 0, 1) := by decide +kernel
theorem dX12_atom_82 : decode cX12_atom 82 = .ok (.getfield 157, 3) := by decide +kernel
theorem dX12_atom_85 : decode cX12_atom 85 = .ok (.ifCond .ne 76, 3) := by decide +kernel
theorem dX12_atom_88 : decode cX12_atom 88 = .ok (.aload_n 0, 1) := by decide +kernel
theorem dX12_atom_89 : decode cX12_atom 89 = .ok (.invokevirtual 174, 3) := by decide +kernel
theorem dX12_atom_92 : decode cX12_atom 92 = .ok (.goto 69, 3) := by decide +kernel
theorem dX12_atom_95 : decode cX12_atom 95 = .ok (.aload_n 0, 1) := by decide +kernel
theorem dX12_atom_96 : decode cX12_atom 96 = .ok (.getfield 157, 3) := by decide +kernel
theorem dX12_atom_99 : decode cX12_atom 99 = .ok (.ifCond .ne 24, 3) := by decide +kernel
theorem dX12_atom_102 : decode cX12_atom 102 = .ok (.aload_n 0, 1) := by decide +kernel
theorem dX12_atom_103 : decode cX12_atom 103 = .ok (.getfield 140, 3) := by decide +kernel
theorem dX12_atom_106 : decode cX12_atom 106 = .ok (.iconst 2, 1) := by decide +kernel
theorem dX12_atom_107 : decode cX12_atom 107 = .ok (.if_icmp .ne 16, 3) := by decide +kernel
theorem dX12_atom_110 : decode cX12_atom 110 = .ok (.aload_n 0, 1) := by decide +kernel
theorem dX12_atom_111 : decode cX12_atom 111 = .ok (.getfield 151, 3) := by decide +kernel
theorem dX12_atom_114 : decode cX12_atom 114 = .ok (.l2i, 1) := by decide +kernel
theorem dX12_atom_115 : decode cX12_atom 115 = .ok (.istore_n 1, 1) := by decide +kernel
theorem dX12_atom_116 : decode cX12_atom 116 = .ok (.aload_n 0, 1) := by decide +kernel
theorem dX12_atom_117 : decode cX12_atom 117 = .ok (.invokevirtual 174, 3) := by decide +kernel
theorem dX12_atom_120 : decode cX12_atom 120 = .ok (.goto 41, 3) := by decide +kernel
theorem dX12_atom_123 : decode cX12_atom 123 = .ok (.aload_n 0, 1) := by decide +kernel
theorem dX12_atom_124 : decode cX12_atom 124 = .ok (.getfield 157, 3) := by decide +kernel
theorem dX12_atom_127 : decode cX12_atom 127 = .ok (.ifCond .ne 30, 3) := by decide +kernel
theorem dX12_atom_130 : decode cX12_atom 130 = .ok (.aload_n 0, 1) := by decide +kernel
theorem dX12_atom_131 : decode cX12_atom 131 = .ok (.getfield 140, 3) := by decide +kernel
theorem dX12_atom_134 : decode cX12_atom 134 = .ok (.iconst 1, 1) := by decide +kernel
theorem dX12_atom_135 : decode cX12_atom 135 = .ok (.if_icmp .ne 22, 3) := by decide +kernel
theorem dX12_atom_138 : decode cX12_atom 138 = .ok (.aload_n 0, 1) := by decide +kernel
theorem dX12_atom_139 : decode cX12_atom 139 = .ok (.invokevirtual 213, 3) := by decide +kernel
theorem dX12_atom_142 : decode cX12_atom 142 = .ok (.istore_n 1, 1) := by decide +kernel
theorem dX12_atom_143 : decode cX12_atom 143 = .ok (.aload_n 0, 1) := by decide +kernel
theorem dX12_atom_144 : decode cX12_atom 144 = .ok (.getfield 157, 3) := by decide +kernel
theorem dX12_atom_147 : decode cX12_atom 147 = .ok (.ifCond .ne 14, 3) := by decide +kernel
theorem dX12_atom_150 : decode cX12_atom 150 = .ok (.aload_n 0, 1) := by decide +kernel
theorem dX12_atom_151 : decode cX12_atom 151 = .ok (.invokevirtual 174, 3) := by decide +kernel
theorem dX12_atom_154 : decode cX12_atom 154 = .ok (.goto 7, 3) := by decide +kernel
theorem dX12_atom_157 : decode cX12_atom 157 = .ok (.aload_n 0, 1) := by decide +kernel
theorem dX12_atom_158 : decode cX12_atom 158 = .ok (.invokevirtual 171, 3) := by decide +kernel
theorem dX12_atom_161 : decode cX12_atom 161 = .ok (.iload_n 1, 1) := by decide +kernel
theorem dX12_atom_162 : decode cX12_atom 162 = .ok (.ireturn, 1) := by decide +kernel
theorem dX12_term_0 : decode cX12_term 0 = .ok (.aload_n 0, 1) := by decide +kernel
theorem dX12_term_1 : decode cX12_term 1 = .ok (.invokevirtual 206, 3) := by decide +kernel
theorem dX12_term_4 : decode cX12_term 4 = .ok (.istore_n 1, 1) := by decide +kernel
theorem dX12_term_5 : decode cX12_term 5 = .ok (.aload_n 0, 1) := by decide +kernel
theorem dX12_term_6 : decode cX12_term 6 = .ok (.bipush 42, 2) := by decide +kernel
theorem dX12_term_8 : decode cX12_term 8 = .ok (.invokevirtual 199, 3) := by decide +kernel
theorem dX12_term_11 : decode cX12_term 11 = .ok (.ifCond .eq 17, 3) := by decide +kernel
theorem dX12_term_14 : decode cX12_term 14 = .ok (.aload_n 0, 1) := by decide +kernel
theorem dX12_term_15 : decode cX12_term 15 = .ok (.invokevirtual 174, 3) := by decide +kernel
theorem dX12_term_18 : decode cX12_term 18 = .ok (.iload_n 1, 1) := by decide +kernel
theorem dX12_term_19 : decode cX12_term 19 = .ok (.aload_n 0, 1) := by decide +kernel
theorem dX12_term_20 : decode cX12_term 20 = .ok (.invokevirtual 206, 3) := by decide +kernel
theorem dX12_term_23 : decode cX12_term 23 = .ok (.imul, 1) := by decide +kernel
theorem dX12_term_24 : decode cX12_term 24 = .ok (.istore_n 1, 1) := by decide +kernel
theorem dX12_term_25 : decode cX12_term 25 = .ok (.goto (-20), 3) := by decide +kernel
theorem dX12_term_28 : decode cX12_term 28 = .ok (.iload_n 1, 1) := by decide +kernel
theorem dX12_term_29 : decode cX12_term 29 = .ok (.ireturn, 1) := by decide +kernel
theorem dX12_added_0 : decode cX12_added 0 = .ok (.aload_n 0, 1) := by decide +kernel
theorem dX12_added_1 : decode cX12_added 1 = .ok (.invokevirtual 216, 3) := by decide +kernel
theorem dX12_added_4 : decode cX12_added 4 = .ok (.istore_n 1, 1) := by decide +kernel
theorem dX12_added_5 : decode cX12_added 5 = .ok (.aload_n 0, 1) := by decide +kernel
theorem dX12_added_6 : decode cX12_added 6 = .ok (.bipush 43, 2) := by decide +kernel
theorem dX12_added_8 : decode cX12_added 8 = .ok (.invokevirtual 199, 3) := by decide +kernel
theorem dX12_added_11 : decode cX12_added 11 = .ok (.ifCond .ne 12, 3) := by decide +kernel
theorem dX12_added_14 : decode cX12_added 14 = .ok (.aload_n 0, 1) := by decide +kernel
theorem dX12_added_15 : decode cX12_added 15 = .ok (.bipush 45, 2) := by decide +kernel
theorem dX12_added_17 : decode cX12_added 17 = .ok (.invokevirtual 199, 3) := by decide +kernel
theorem dX12_added_20 : decode cX12_added 20 = .ok (.ifCond .eq 46, 3) := by decide +kernel
theorem dX12_added_23 : decode cX12_added 23 = .ok (.aload_n 0, 1) := by decide +kernel
theorem dX12_added_24 : decode cX12_added 24 = .ok (.getfield 151, 3) := by decide +kernel
theorem dX12_added_27 : decode cX12_added 27 = .ok (.ldc2_w 219, 3) := by decide +kernel
theorem dX12_added_30 : decode cX12_added 30 = .ok (.lcmp, 1) := by decide +kernel
theorem dX12_added_31 : decode cX12_added 31 = .ok (.ifCond .ne 7, 3) := by decide +kernel
theorem dX12_added_34 : decode cX12_added 34 = .ok (.iconst 1, 1) := by decide +kernel
theorem dX12_added_35 : decode cX12_added 35 = .ok (.goto 4, 3) := by decide +kernel
theorem dX12_added_38 : decode cX12_added 38 = .ok (.iconst 0, 1) := by decide +kernel
theorem dX12_added_39 : decode cX12_added 39 = .ok (.istore_n 2, 1) := by decide +kernel
theorem dX12_added_40 : decode cX12_added 40 = .ok (.aload_n 0, 1) := by decide +kernel
theorem dX12_added_41 : decode cX12_added 41 = .ok (.invokevirtual 174, 3) := by decide +kernel
theorem dX12_added_44 : decode cX12_added 44 = .ok (.aload_n 0, 1) := by decide +kernel
theorem dX12_added_45 : decode cX12_added 45 = .ok (.invokevirtual 216, 3) := by decide +kernel
theorem dX12_added_48 : decode cX12_added 48 = .ok (.istore_n 3, 1) := by decide +kernel
theorem dX12_added_49 : decode cX12_added 49 = .ok (.iload_n 2, 1) := by decide +kernel
theorem dX12_added_50 : decode cX12_added 50 = .ok (.ifCond .eq 9, 3) := by decide +kernel
theorem dX12_added_53 : decode cX12_added 53 = .ok (.iload_n 1, 1) := by decide +kernel
theorem dX12_added_54 : decode cX12_added 54 = .ok (.iload_n 3, 1) := by decide +kernel
theorem dX12_added_55 : decode cX12_added 55 = .ok (.iadd, 1) := by decide +kernel
theorem dX12_added_56 : decode cX12_added 56 = .ok (.goto 6, 3) := by decide +kernel
theorem dX12_added_59 : decode cX12_added 59 = .ok (.iload_n 1, 1) := by decide +kernel
theorem dX12_added_60 : decode cX12_added 60 = .ok (.iload_n 3, 1) := by decide +kernel
theorem dX12_added_61 : decode cX12_added 61 = .ok (.isub, 1) := by decide +kernel
theorem dX12_added_62 : decode cX12_added 62 = .ok (.istore_n 1, 1) := by decide +kernel
theorem dX12_added_63 : decode cX12_added 63 = .ok (.goto (-58), 3) := by decide +kernel
theorem dX12_added_66 : decode cX12_added 66 = .ok (.iload_n 1, 1) := by decide +kernel
theorem dX12_added_67 : decode cX12_added 67 = .ok (.ireturn, 1) := by decide +kernel
theorem dX12_not_0 : decode cX12_not 0 = .ok (.aload_n 0, 1) := by decide +kernel
theorem dX12_not_1 : decode cX12_not 1 = .ok (.bipush 110, 2) := by decide +kernel
theorem dX12_not_3 : decode cX12_not 3 = .ok (.bipush 111, 2) := by decide +kernel
theorem dX12_not_5 : decode cX12_not 5 = .ok (.bipush 116, 2) := by decide +kernel
theorem dX12_not_7 : decode cX12_not 7 = .ok (.iconst 0, 1) := by decide +kernel
theorem dX12_not_8 : decode cX12_not 8 = .ok (.iconst 0, 1) := by decide +kernel
theorem dX12_not_9 : decode cX12_not 9 = .ok (.iconst 0, 1) := by decide +kernel
theorem dX12_not_10 : decode cX12_not 10 = .ok (.iconst 0, 1) := by decide +kernel
theorem dX12_not_11 : decode cX12_not 11 = .ok (.iconst 0, 1) := by decide +kernel
theorem dX12_not_12 : decode cX12_not 12 = .ok (.invokevirtual 177, 3) := by decide +kernel
theorem dX12_not_15 : decode cX12_not 15 = .ok (.ifCond .eq 37, 3) := by decide +kernel
theorem dX12_not_18 : decode cX12_not 18 = .ok (.aload_n 0, 1) := by decide +kernel
theorem dX12_not_19 : decode cX12_not 19 = .ok (.invokevirtual 202, 3) := by decide +kernel
theorem dX12_not_22 : decode cX12_not 22 = .ok (.ifCond .ne 5, 3) := by decide +kernel
theorem dX12_not_25 : decode cX12_not 25 = .ok (.iconst 0, 1) := by decide +kernel
theorem dX12_not_26 : decode cX12_not 26 = .ok (.ireturn, 1) := by decide +kernel
theorem dX12_not_27 : decode cX12_not 27 = .ok (.aload_n 0, 1) := by decide +kernel
theorem dX12_not_28 : decode cX12_not 28 = .ok (.invokevirtual 221, 3) := by decide +kernel
theorem dX12_not_31 : decode cX12_not 31 = .ok (.istore_n 1, 1) := by decide +kernel
theorem dX12_not_32 : decode cX12_not 32 = .ok (.aload_n 0, 1) := by decide +kernel
theorem dX12_not_33 : decode cX12_not 33 = .ok (.dup, 1) := by decide +kernel
theorem dX12_not_34 : decode cX12_not 34 = .ok (.getfield 168, 3) := by decide +kernel
theorem dX12_not_37 : decode cX12_not 37 = .ok (.iconst 1, 1) := by decide +kernel
theorem dX12_not_38 : decode cX12_not 38 = .ok (.isub, 1) := by decide +kernel
theorem dX12_not_39 : decode cX12_not 39 = .ok (.putfield 168, 3) := by decide +kernel
theorem dX12_not_42 : decode cX12_not 42 = .ok (.iload_n 1, 1) := by decide +kernel
theorem dX12_not_43 : decode cX12_not 43 = .ok (.ifCond .ne 7, 3) := by decide +kernel
theorem dX12_not_46 : decode cX12_not 46 = .ok (.iconst 1, 1) := by decide +kernel
theorem dX12_not_47 : decode cX12_not 47 = .ok (.goto 4, 3) := by decide +kernel
theorem dX12_not_50 : decode cX12_not 50 = .ok (.iconst 0, 1) := by decide +kernel
theorem dX12_not_51 : decode cX12_not 51 = .ok (.ireturn, 1) := by decide +kernel
theorem dX12_not_52 : decode cX12_not 52 = .ok (.aload_n 0, 1) := by decide +kernel
theorem dX12_not_53 : decode cX12_not 53 = .ok (.invokevirtual 224, 3) := by decide +kernel
theorem dX12_not_56 : decode cX12_not 56 = .ok (.istore_n 1, 1) := by decide +kernel
theorem dX12_not_57 : decode cX12_not 57 = .ok (.aload_n 0, 1) := by decide +kernel
theorem dX12_not_58 : decode cX12_not 58 = .ok (.bipush 60, 2) := by decide +kernel
theorem dX12_not_60 : decode cX12_not 60 = .ok (.invokevirtual 199, 3) := by decide +kernel
theorem dX12_not_63 : decode cX12_not 63 = .ok (.ifCond .ne 14, 3) := by decide +kernel
theorem dX12_not_66 : decode cX12_not 66 = .ok (.aload_n 0, 1) := by decide +kernel
theorem dX12_not_67 : decode cX12_not 67 = .ok (.bipush 61, 2) := by decide +kernel
theorem dX12_not_69 : decode cX12_not 69 = .ok (.invokevirtual 199, 3) := by decide +kernel
theorem dX12_not_72 : decode cX12_not 72 = .ok (.ifCond .ne 5, 3) := by decide +kernel
theorem dX12_not_75 : decode cX12_not 75 = .ok (.iload_n 1, 1) := by decide +kernel
theorem dX12_not_76 : decode cX12_not 76 = .ok (.ireturn, 1) := by decide +kernel
theorem dX12_not_77 : decode cX12_not 77 = .ok (.aload_n 0, 1) := by decide +kernel
theorem dX12_not_78 : decode cX12_not 78 = .ok (.getfield 151, 3) := by decide +kernel
theorem dX12_not_81 : decode cX12_not 81 = .ok (.ldc2_w 227, 3) := by decide +kernel
theorem dX12_not_84 : decode cX12_not 84 = .ok (.lcmp, 1) := by decide +kernel
theorem dX12_not_85 : decode cX12_not 85 = .ok (.ifCond .ne 7, 3) := by decide +kernel
theorem dX12_not_88 : decode cX12_not 88 = .ok (.iconst 1, 1) := by decide +kernel
theorem dX12_not_89 : decode cX12_not 89 = .ok (.goto 4, 3) := by decide +kernel
theorem dX12_not_92 : decode cX12_not 92 = .ok (.iconst 0, 1) := by decide +kernel
theorem dX12_not_93 : decode cX12_not 93 = .ok (.istore_n 2, 1) := by decide +kernel
theorem dX12_not_94 : decode cX12_not 94 = .ok (.aload_n 0, 1) := by decide +kernel
theorem dX12_not_95 : decode cX12_not 95 = .ok (.invokevirtual 174, 3) := by decide +kernel
theorem dX12_not_98 : decode cX12_not 98 = .ok (.aload_n 0, 1) := by decide +kernel
theorem dX12_not_99 : decode cX12_not 99 = .ok (.invokevirtual 224, 3) := by decide +kernel
theorem dX12_not_102 : decode cX12_not 102 = .ok (.istore_n 3, 1) := by decide +kernel
theorem dX12_not_103 : decode cX12_not 103 = .ok (.iload_n 2, 1) := by decide +kernel
theorem dX12_not_104 : decode cX12_not 104 = .ok (.ifCond .eq 11, 3) := by decide +kernel
theorem dX12_not_107 : decode cX12_not 107 = .ok (.iload_n 1, 1) := by decide +kernel
theorem dX12_not_108 : decode cX12_not 108 = .ok (.iload_n 3, 1) := by decide +kernel
theorem dX12_not_109 : decode cX12_not 109 = .ok (.if_icmp .ge 15, 3) := by decide +kernel
theorem dX12_not_112 : decode cX12_not 112 = .ok (.goto 8, 3) := by decide +kernel
theorem dX12_not_115 : decode cX12_not 115 = .ok (.iload_n 1, 1) := by decide +kernel
theorem dX12_not_116 : decode cX12_not 116 = .ok (.iload_n 3, 1) := by decide +kernel
theorem dX12_not_117 : decode cX12_not 117 = .ok (.if_icmp .ne 7, 3) := by decide +kernel
theorem dX12_not_120 : decode cX12_not 120 = .ok (.iconst 1, 1) := by decide +kernel
theorem dX12_not_121 : decode cX12_not 121 = .ok (.goto 4, 3) := by decide +kernel
theorem dX12_not_124 : decode cX12_not 124 = .ok (.iconst 0, 1) := by decide +kernel
theorem dX12_not_125 : decode cX12_not 125 = .ok (.ireturn, 1) := by decide +kernel
theorem dX12_both_0 : decode cX12_both 0 = .ok (.aload_n 0, 1) := by decide +kernel
theorem dX12_both_1 : decode cX12_both 1 = .ok (.invokevirtual 221, 3) := by decide +kernel
theorem dX12_both_4 : decode cX12_both 4 = .ok (.istore_n 1, 1) := by decide +kernel
theorem dX12_both_5 : decode cX12_both 5 = .ok (.aload_n 0, 1) := by decide +kernel
theorem dX12_both_6 : decode cX12_both 6 = .ok (.bipush 97, 2) := by decide +kernel
theorem dX12_both_8 : decode cX12_both 8 = .ok (.bipush 110, 2) := by decide +kernel
theorem dX12_both_10 : decode cX12_both 10 = .ok (.bipush 100, 2) := by decide +kernel
theorem dX12_both_12 : decode cX12_both 12 = .ok (.iconst 0, 1) := by decide +kernel
theorem dX12_both_13 : decode cX12_both 13 = .ok (.iconst 0, 1) := by decide +kernel
theorem dX12_both_14 : decode cX12_both 14 = .ok (.iconst 0, 1) := by decide +kernel
theorem dX12_both_15 : decode cX12_both 15 = .ok (.iconst 0, 1) := by decide +kernel
theorem dX12_both_16 : decode cX12_both 16 = .ok (.iconst 0, 1) := by decide +kernel
theorem dX12_both_17 : decode cX12_both 17 = .ok (.invokevirtual 177, 3) := by decide +kernel
theorem dX12_both_20 : decode cX12_both 20 = .ok (.ifCond .eq 29, 3) := by decide +kernel
theorem dX12_both_23 : decode cX12_both 23 = .ok (.aload_n 0, 1) := by decide +kernel
theorem dX12_both_24 : decode cX12_both 24 = .ok (.invokevirtual 174, 3) := by decide +kernel
theorem dX12_both_27 : decode cX12_both 27 = .ok (.aload_n 0, 1) := by decide +kernel
theorem dX12_both_28 : decode cX12_both 28 = .ok (.invokevirtual 221, 3) := by decide +kernel
theorem dX12_both_31 : decode cX12_both 31 = .ok (.istore_n 2, 1) := by decide +kernel
theorem dX12_both_32 : decode cX12_both 32 = .ok (.iload_n 1, 1) := by decide +kernel
theorem dX12_both_33 : decode cX12_both 33 = .ok (.ifCond .eq 11, 3) := by decide +kernel
theorem dX12_both_36 : decode cX12_both 36 = .ok (.iload_n 2, 1) := by decide +kernel
theorem dX12_both_37 : decode cX12_both 37 = .ok (.ifCond .eq 7, 3) := by decide +kernel
theorem dX12_both_40 : decode cX12_both 40 = .ok (.iconst 1, 1) := by decide +kernel
theorem dX12_both_41 : decode cX12_both 41 = .ok (.goto 4, 3) := by decide +kernel
theorem dX12_both_44 : decode cX12_both 44 = .ok (.iconst 0, 1) := by decide +kernel
theorem dX12_both_45 : decode cX12_both 45 = .ok (.istore_n 1, 1) := by decide +kernel
theorem dX12_both_46 : decode cX12_both 46 = .ok (.goto (-41), 3) := by decide +kernel
theorem dX12_both_49 : decode cX12_both 49 = .ok (.iload_n 1, 1) := by decide +kernel
theorem dX12_both_50 : decode cX12_both 50 = .ok (.ireturn, 1) := by decide +kernel
theorem dX12_either_0 : decode cX12_either 0 = .ok (.aload_n 0, 1) := by decide +kernel
theorem dX12_either_1 : decode cX12_either 1 = .ok (.invokevirtual 229, 3) := by decide +kernel
theorem dX12_either_4 : decode cX12_either 4 = .ok (.istore_n 1, 1) := by decide +kernel
theorem dX12_either_5 : decode cX12_either 5 = .ok (.aload_n 0, 1) := by decide +kernel
theorem dX12_either_6 : decode cX12_either 6 = .ok (.bipush 111, 2) := by decide +kernel
theorem dX12_either_8 : decode cX12_either 8 = .ok (.bipush 114, 2) := by decide +kernel
theorem dX12_either_10 : decode cX12_either 10 = .ok (.iconst 0, 1) := by decide +kernel
theorem dX12_either_11 : decode cX12_either 11 = .ok (.iconst 0, 1) := by decide +kernel
theorem dX12_either_12 : decode cX12_either 12 = .ok (.iconst 0, 1) := by decide +kernel
theorem dX12_either_13 : decode cX12_either 13 = .ok (.iconst 0, 1) := by decide +kernel
theorem dX12_either_14 : decode cX12_either 14 = .ok (.iconst 0, 1) := by decide +kernel
theorem dX12_either_15 : decode cX12_either 15 = .ok (.iconst 0, 1) := by decide +kernel
theorem dX12_either_16 : decode cX12_either 16 = .ok (.invokevirtual 177, 3) := by decide +kernel
theorem dX12_either_19 : decode cX12_either 19 = .ok (.ifCond .eq 29, 3) := by decide +kernel
theorem dX12_either_22 : decode cX12_either 22 = .ok (.aload_n 0, 1) := by decide +kernel
theorem dX12_either_23 : decode cX12_either 23 = .ok (.invokevirtual 174, 3) := by decide +kernel
theorem dX12_either_26 : decode cX12_either 26 = .ok (.aload_n 0, 1) := by decide +kernel
theorem dX12_either_27 : decode cX12_either 27 = .ok (.invokevirtual 229, 3) := by decide +kernel
theorem dX12_either_30 : decode cX12_either 30 = .ok (.istore_n 2, 1) := by decide +kernel
theorem dX12_either_31 : decode cX12_either 31 = .ok (.iload_n 1, 1) := by decide +kernel
theorem dX12_either_32 : decode cX12_either 32 = .ok (.ifCond .ne 7, 3) := by decide +kernel
theorem dX12_either_35 : decode cX12_either 35 = .ok (.iload_n 2, 1) := by decide +kernel
theorem dX12_either_36 : decode cX12_either 36 = .ok (.ifCond .eq 7, 3) := by decide +kernel
theorem dX12_either_39 : decode cX12_either 39 = .ok (.iconst 1, 1) := by decide +kernel
theorem dX12_either_40 : decode cX12_either 40 = .ok (.goto 4, 3) := by decide +kernel
theorem dX12_either_43 : decode cX12_either 43 = .ok (.iconst 0, 1) := by decide +kernel
theorem dX12_either_44 : decode cX12_either 44 = .ok (.istore_n 1, 1) := by decide +kernel
theorem dX12_either_45 : decode cX12_either 45 = .ok (.goto (-40), 3) := by decide +kernel
theorem dX12_either_48 : decode cX12_either 48 = .ok (.iload_n 1, 1) := by decide +kernel
theorem dX12_either_49 : decode cX12_either 49 = .ok (.ireturn, 1) := by decide +kernel
theorem dX12_part_0 : decode cX12_part 0 = .ok (.iload_n 1, 1) := by decide +kernel
theorem dX12_part_1 : decode cX12_part 1 = .ok (.ifCond .ne 7, 3) := by decide +kernel
theorem dX12_part_4 : decode cX12_part 4 = .ok (.aload_n 0, 1) := by decide +kernel
theorem dX12_part_5 : decode cX12_part 5 = .ok (.invokevirtual 171, 3) := by decide +kernel
theorem dX12_part_8 : decode cX12_part 8 = .ok (.aload_n 0, 1) := by decide +kernel
theorem dX12_part_9 : decode cX12_part 9 = .ok (.getfield 157, 3) := by decide +kernel
theorem dX12_part_12 : decode cX12_part 12 = .ok (.ifCond .ne 7, 3) := by decide +kernel
theorem dX12_part_15 : decode cX12_part 15 = .ok (.aload_n 0, 1) := by decide +kernel
theorem dX12_part_16 : decode cX12_part 16 = .ok (.invokevirtual 174, 3) := by decide +kernel
theorem dX12_part_19 : decode cX12_part 19 = .ok (.aload_n 0, 1) := by decide +kernel
theorem dX12_part_20 : decode cX12_part 20 = .ok (.getfield 157, 3) := by decide +kernel
theorem dX12_part_23 : decode cX12_part 23 = .ok (.ifCond .eq 7, 3) := by decide +kernel
theorem dX12_part_26 : decode cX12_part 26 = .ok (.iconst 0, 1) := by decide +kernel
theorem dX12_part_27 : decode cX12_part 27 = .ok (.goto 7, 3) := by decide +kernel
theorem dX12_part_30 : decode cX12_part 30 = .ok (.aload_n 0, 1) := by decide +kernel
theorem dX12_part_31 : decode cX12_part 31 = .ok (.invokevirtual 210, 3) := by decide +kernel
theorem dX12_part_34 : decode cX12_part 34 = .ok (.istore_n 2, 1) := by decide +kernel
theorem dX12_part_35 : decode cX12_part 35 = .ok (.aload_n 0, 1) := by decide +kernel
theorem dX12_part_36 : decode cX12_part 36 = .ok (.bipush 59, 2) := by decide +kernel
theorem dX12_part_38 : decode cX12_part 38 = .ok (.invokevirtual 199, 3) := by decide +kernel
theorem dX12_part_41 : decode cX12_part 41 = .ok (.ifCond .ne 7, 3) := by decide +kernel
theorem dX12_part_44 : decode cX12_part 44 = .ok (.aload_n 0, 1) := by decide +kernel
theorem dX12_part_45 : decode cX12_part 45 = .ok (.invokevirtual 171, 3) := by decide +kernel
theorem dX12_part_48 : decode cX12_part 48 = .ok (.aload_n 0, 1) := by decide +kernel
theorem dX12_part_49 : decode cX12_part 49 = .ok (.getfield 157, 3) := by decide +kernel
theorem dX12_part_52 : decode cX12_part 52 = .ok (.ifCond .ne 7, 3) := by decide +kernel
theorem dX12_part_55 : decode cX12_part 55 = .ok (.aload_n 0, 1) := by decide +kernel
theorem dX12_part_56 : decode cX12_part 56 = .ok (.invokevirtual 174, 3) := by decide +kernel
theorem dX12_part_59 : decode cX12_part 59 = .ok (.iload_n 2, 1) := by decide +kernel
theorem dX12_part_60 : decode cX12_part 60 = .ok (.ireturn, 1) := by decide +kernel
theorem dX12_read_0 : decode cX12_read 0 = .ok (.aload_n 0, 1) := by decide +kernel
theorem dX12_read_1 : decode cX12_read 1 = .ok (.sipush 160, 3) := by decide +kernel
theorem dX12_read_4 : decode cX12_read 4 = .ok (.iload_n 1, 1) := by decide +kernel
theorem dX12_read_5 : decode cX12_read 5 = .ok (.imul, 1) := by decide +kernel
theorem dX12_read_6 : decode cX12_read 6 = .ok (.putfield 127, 3) := by decide +kernel
theorem dX12_read_9 : decode cX12_read 9 = .ok (.aload_n 0, 1) := by decide +kernel
theorem dX12_read_10 : decode cX12_read 10 = .ok (.aload_n 0, 1) := by decide +kernel
theorem dX12_read_11 : decode cX12_read 11 = .ok (.getfield 17, 3) := by decide +kernel
theorem dX12_read_14 : decode cX12_read 14 = .ok (.iload_n 1, 1) := by decide +kernel
theorem dX12_read_15 : decode cX12_read 15 = .ok (.iaload, 1) := by decide +kernel
theorem dX12_read_16 : decode cX12_read 16 = .ok (.putfield 124, 3) := by decide +kernel
theorem dX12_read_19 : decode cX12_read 19 = .ok (.aload_n 0, 1) := by decide +kernel
theorem dX12_read_20 : decode cX12_read 20 = .ok (.iconst 0, 1) := by decide +kernel
theorem dX12_read_21 : decode cX12_read 21 = .ok (.putfield 130, 3) := by decide +kernel
theorem dX12_read_24 : decode cX12_read 24 = .ok (.aload_n 0, 1) := by decide +kernel
theorem dX12_read_25 : decode cX12_read 25 = .ok (.iconst 0, 1) := by decide +kernel
theorem dX12_read_26 : decode cX12_read 26 = .ok (.putfield 168, 3) := by decide +kernel
theorem dX12_read_29 : decode cX12_read 29 = .ok (.aload_n 0, 1) := by decide +kernel
theorem dX12_read_30 : decode cX12_read 30 = .ok (.iconst 0, 1) := by decide +kernel
theorem dX12_read_31 : decode cX12_read 31 = .ok (.putfield 157, 3) := by decide +kernel
theorem dX12_read_34 : decode cX12_read 34 = .ok (.aload_n 0, 1) := by decide +kernel
theorem dX12_read_35 : decode cX12_read 35 = .ok (.invokevirtual 174, 3) := by decide +kernel
theorem dX12_read_38 : decode cX12_read 38 = .ok (.aload_n 0, 1) := by decide +kernel
theorem dX12_read_39 : decode cX12_read 39 = .ok (.aload_n 0, 1) := by decide +kernel
theorem dX12_read_40 : decode cX12_read 40 = .ok (.bipush 102, 2) := by decide +kernel
theorem dX12_read_42 : decode cX12_read 42 = .ok (.bipush 108, 2) := by decide +kernel
theorem dX12_read_44 : decode cX12_read 44 = .ok (.bipush 105, 2) := by decide +kernel
theorem dX12_read_46 : decode cX12_read 46 = .ok (.bipush 101, 2) := by decide +kernel
theorem dX12_read_48 : decode cX12_read 48 = .ok (.bipush 115, 2) := by decide +kernel
theorem dX12_read_50 : decode cX12_read 50 = .ok (.iconst 0, 1) := by decide +kernel
theorem dX12_read_51 : decode cX12_read 51 = .ok (.iconst 0, 1) := by decide +kernel
theorem dX12_read_52 : decode cX12_read 52 = .ok (.iconst 0, 1) := by decide +kernel
theorem dX12_read_53 : decode cX12_read 53 = .ok (.invokevirtual 177, 3) := by decide +kernel
theorem dX12_read_56 : decode cX12_read 56 = .ok (.invokevirtual 232, 3) := by decide +kernel
theorem dX12_read_59 : decode cX12_read 59 = .ok (.istore_n 3, 1) := by decide +kernel
theorem dX12_read_60 : decode cX12_read 60 = .ok (.aload_n 0, 1) := by decide +kernel
theorem dX12_read_61 : decode cX12_read 61 = .ok (.getfield 157, 3) := by decide +kernel
theorem dX12_read_64 : decode cX12_read 64 = .ok (.ifCond .eq 7, 3) := by decide +kernel
theorem dX12_read_67 : decode cX12_read 67 = .ok (.iconst 0, 1) := by decide +kernel
theorem dX12_read_68 : decode cX12_read 68 = .ok (.goto 24, 3) := by decide +kernel
theorem dX12_read_71 : decode cX12_read 71 = .ok (.aload_n 0, 1) := by decide +kernel
theorem dX12_read_72 : decode cX12_read 72 = .ok (.aload_n 0, 1) := by decide +kernel
theorem dX12_read_73 : decode cX12_read 73 = .ok (.bipush 115, 2) := by decide +kernel
theorem dX12_read_75 : decode cX12_read 75 = .ok (.bipush 116, 2) := by decide +kernel
theorem dX12_read_77 : decode cX12_read 77 = .ok (.bipush 101, 2) := by decide +kernel
theorem dX12_read_79 : decode cX12_read 79 = .ok (.bipush 112, 2) := by decide +kernel
theorem dX12_read_81 : decode cX12_read 81 = .ok (.bipush 115, 2) := by decide +kernel
theorem dX12_read_83 : decode cX12_read 83 = .ok (.iconst 0, 1) := by decide +kernel
theorem dX12_read_84 : decode cX12_read 84 = .ok (.iconst 0, 1) := by decide +kernel
theorem dX12_read_85 : decode cX12_read 85 = .ok (.iconst 0, 1) := by decide +kernel
theorem dX12_read_86 : decode cX12_read 86 = .ok (.invokevirtual 177, 3) := by decide +kernel
theorem dX12_read_89 : decode cX12_read 89 = .ok (.invokevirtual 232, 3) := by decide +kernel
theorem dX12_read_92 : decode cX12_read 92 = .ok (.istore 4, 2) := by decide +kernel
theorem dX12_read_94 : decode cX12_read 94 = .ok (.aload_n 0, 1) := by decide +kernel
theorem dX12_read_95 : decode cX12_read 95 = .ok (.getfield 157, 3) := by decide +kernel
theorem dX12_read_98 : decode cX12_read 98 = .ok (.ifCond .eq 7, 3) := by decide +kernel
theorem dX12_read_101 : decode cX12_read 101 = .ok (.iconst 0, 1) := by decide +kernel
theorem dX12_read_102 : decode cX12_read 102 = .ok (.goto 24, 3) := by decide +kernel
theorem dX12_read_105 : decode cX12_read 105 = .ok (.aload_n 0, 1) := by decide +kernel
theorem dX12_read_106 : decode cX12_read 106 = .ok (.aload_n 0, 1) := by decide +kernel
theorem dX12_read_107 : decode cX12_read 107 = .ok (.bipush 115, 2) := by decide +kernel
theorem dX12_read_109 : decode cX12_read 109 = .ok (.bipush 108, 2) := by decide +kernel
theorem dX12_read_111 : decode cX12_read 111 = .ok (.bipush 105, 2) := by decide +kernel
theorem dX12_read_113 : decode cX12_read 113 = .ok (.bipush 112, 2) := by decide +kernel
theorem dX12_read_115 : decode cX12_read 115 = .ok (.bipush 115, 2) := by decide +kernel
theorem dX12_read_117 : decode cX12_read 117 = .ok (.iconst 0, 1) := by decide +kernel
theorem dX12_read_118 : decode cX12_read 118 = .ok (.iconst 0, 1) := by decide +kernel
theorem dX12_read_119 : decode cX12_read 119 = .ok (.iconst 0, 1) := by decide +kernel
theorem dX12_read_120 : decode cX12_read 120 = .ok (.invokevirtual 177, 3) := by decide +kernel
theorem dX12_read_123 : decode cX12_read 123 = .ok (.invokevirtual 232, 3) := by decide +kernel
theorem dX12_read_126 : decode cX12_read 126 = .ok (.istore 5, 2) := by decide +kernel
theorem dX12_read_128 : decode cX12_read 128 = .ok (.aload_n 0, 1) := by decide +kernel
theorem dX12_read_129 : decode cX12_read 129 = .ok (.getfield 157, 3) := by decide +kernel
theorem dX12_read_132 : decode cX12_read 132 = .ok (.ifCond .ne 14, 3) := by decide +kernel
theorem dX12_read_135 : decode cX12_read 135 = .ok (.aload_n 0, 1) := by decide +kernel
theorem dX12_read_136 : decode cX12_read 136 = .ok (.getfield 140, 3) := by decide +kernel
theorem dX12_read_139 : decode cX12_read 139 = .ok (.ifCond .eq 7, 3) := by decide +kernel
theorem dX12_read_142 : decode cX12_read 142 = .ok (.aload_n 0, 1) := by decide +kernel
theorem dX12_read_143 : decode cX12_read 143 = .ok (.invokevirtual 171, 3) := by decide +kernel
theorem dX12_read_146 : decode cX12_read 146 = .ok (.iload_n 2, 1) := by decide +kernel
theorem dX12_read_147 : decode cX12_read 147 = .ok (.ifCond .ne 7, 3) := by decide +kernel
theorem dX12_read_150 : decode cX12_read 150 = .ok (.iload_n 3, 1) := by decide +kernel
theorem dX12_read_151 : decode cX12_read 151 = .ok (.goto 15, 3) := by decide +kernel
theorem dX12_read_154 : decode cX12_read 154 = .ok (.iload_n 2, 1) := by decide +kernel
theorem dX12_read_155 : decode cX12_read 155 = .ok (.iconst 1, 1) := by decide +kernel
theorem dX12_read_156 : decode cX12_read 156 = .ok (.if_icmp .ne 8, 3) := by decide +kernel
theorem dX12_read_159 : decode cX12_read 159 = .ok (.iload 4, 2) := by decide +kernel
theorem dX12_read_161 : decode cX12_read 161 = .ok (.goto 5, 3) := by decide +kernel
theorem dX12_read_164 : decode cX12_read 164 = .ok (.iload 5, 2) := by decide +kernel
theorem dX12_read_166 : decode cX12_read 166 = .ok (.ireturn, 1) := by decide +kernel
theorem dX12_text_0 : decode cX12_text 0 = .ok (.aload_n 0, 1) := by decide +kernel
theorem dX12_text_1 : decode cX12_text 1 = .ok (.getfield 76, 3) := by decide +kernel
theorem dX12_text_4 : decode cX12_text 4 = .ok (.bipush 6, 2) := by decide +kernel
theorem dX12_text_6 : decode cX12_text 6 = .ok (.if_icmp .ne 6, 3) := by decide +kernel
theorem dX12_text_9 : decode cX12_text 9 = .ok (.bipush (-4), 2) := by decide +kernel
theorem dX12_text_11 : decode cX12_text 11 = .ok (.ireturn, 1) := by decide +kernel
theorem dX12_text_12 : decode cX12_text 12 = .ok (.iconst 0, 1) := by decide +kernel
theorem dX12_text_13 : decode cX12_text 13 = .ok (.istore_n 1, 1) := by decide +kernel
theorem dX12_text_14 : decode cX12_text 14 = .ok (.iload_n 1, 1) := by decide +kernel
theorem dX12_text_15 : decode cX12_text 15 = .ok (.aload_n 0, 1) := by decide +kernel
theorem dX12_text_16 : decode cX12_text 16 = .ok (.getfield 121, 3) := by decide +kernel
theorem dX12_text_19 : decode cX12_text 19 = .ok (.if_icmp .ge 30, 3) := by decide +kernel
theorem dX12_text_22 : decode cX12_text 22 = .ok (.aload_n 0, 1) := by decide +kernel
theorem dX12_text_23 : decode cX12_text 23 = .ok (.getfield 13, 3) := by decide +kernel
theorem dX12_text_26 : decode cX12_text 26 = .ok (.sipush 160, 3) := by decide +kernel
theorem dX12_text_29 : decode cX12_text 29 = .ok (.aload_n 0, 1) := by decide +kernel
theorem dX12_text_30 : decode cX12_text 30 = .ok (.getfield 76, 3) := by decide +kernel
theorem dX12_text_33 : decode cX12_text 33 = .ok (.imul, 1) := by decide +kernel
theorem dX12_text_34 : decode cX12_text 34 = .ok (.iload_n 1, 1) := by decide +kernel
theorem dX12_text_35 : decode cX12_text 35 = .ok (.iadd, 1) := by decide +kernel
theorem dX12_text_36 : decode cX12_text 36 = .ok (.aload_n 0, 1) := by decide +kernel
theorem dX12_text_37 : decode cX12_text 37 = .ok (.getfield 20, 3) := by decide +kernel
theorem dX12_text_40 : decode cX12_text 40 = .ok (.iload_n 1, 1) := by decide +kernel
theorem dX12_text_41 : decode cX12_text 41 = .ok (.iaload, 1) := by decide +kernel
theorem dX12_text_42 : decode cX12_text 42 = .ok (.iastore, 1) := by decide +kernel
theorem dX12_text_43 : decode cX12_text 43 = .ok (.iinc 1 1, 3) := by decide +kernel
theorem dX12_text_46 : decode cX12_text 46 = .ok (.goto (-32), 3) := by decide +kernel
theorem dX12_text_49 : decode cX12_text 49 = .ok (.aload_n 0, 1) := by decide +kernel
theorem dX12_text_50 : decode cX12_text 50 = .ok (.getfield 17, 3) := by decide +kernel
theorem dX12_text_53 : decode cX12_text 53 = .ok (.aload_n 0, 1) := by decide +kernel
theorem dX12_text_54 : decode cX12_text 54 = .ok (.getfield 76, 3) := by decide +kernel
theorem dX12_text_57 : decode cX12_text 57 = .ok (.aload_n 0, 1) := by decide +kernel
theorem dX12_text_58 : decode cX12_text 58 = .ok (.getfield 121, 3) := by decide +kernel
theorem dX12_text_61 : decode cX12_text 61 = .ok (.iastore, 1) := by decide +kernel
theorem dX12_text_62 : decode cX12_text 62 = .ok (.aload_n 0, 1) := by decide +kernel
theorem dX12_text_63 : decode cX12_text 63 = .ok (.iconst 0, 1) := by decide +kernel
theorem dX12_text_64 : decode cX12_text 64 = .ok (.putfield 121, 3) := by decide +kernel
theorem dX12_text_67 : decode cX12_text 67 = .ok (.aload_n 0, 1) := by decide +kernel
theorem dX12_text_68 : decode cX12_text 68 = .ok (.aload_n 0, 1) := by decide +kernel
theorem dX12_text_69 : decode cX12_text 69 = .ok (.getfield 76, 3) := by decide +kernel
theorem dX12_text_72 : decode cX12_text 72 = .ok (.iconst 0, 1) := by decide +kernel
theorem dX12_text_73 : decode cX12_text 73 = .ok (.invokevirtual 236, 3) := by decide +kernel
theorem dX12_text_76 : decode cX12_text 76 = .ok (.istore_n 1, 1) := by decide +kernel
theorem dX12_text_77 : decode cX12_text 77 = .ok (.aload_n 0, 1) := by decide +kernel
theorem dX12_text_78 : decode cX12_text 78 = .ok (.getfield 157, 3) := by decide +kernel
theorem dX12_text_81 : decode cX12_text 81 = .ok (.ifCond .eq 11, 3) := by decide +kernel
theorem dX12_text_84 : decode cX12_text 84 = .ok (.bipush (-100), 2) := by decide +kernel
theorem dX12_text_86 : decode cX12_text 86 = .ok (.aload_n 0, 1) := by decide +kernel
theorem dX12_text_87 : decode cX12_text 87 = .ok (.getfield 161, 3) := by decide +kernel
theorem dX12_text_90 : decode cX12_text 90 = .ok (.isub, 1) := by decide +kernel
theorem dX12_text_91 : decode cX12_text 91 = .ok (.ireturn, 1) := by decide +kernel
theorem dX12_text_92 : decode cX12_text 92 = .ok (.aload_n 0, 1) := by decide +kernel
theorem dX12_text_93 : decode cX12_text 93 = .ok (.dup, 1) := by decide +kernel
theorem dX12_text_94 : decode cX12_text 94 = .ok (.getfield 76, 3) := by decide +kernel
theorem dX12_text_97 : decode cX12_text 97 = .ok (.iconst 1, 1) := by decide +kernel
theorem dX12_text_98 : decode cX12_text 98 = .ok (.iadd, 1) := by decide +kernel
theorem dX12_text_99 : decode cX12_text 99 = .ok (.putfield 76, 3) := by decide +kernel
theorem dX12_text_102 : decode cX12_text 102 = .ok (.aload_n 0, 1) := by decide +kernel
theorem dX12_text_103 : decode cX12_text 103 = .ok (.getfield 76, 3) := by decide +kernel
theorem dX12_text_106 : decode cX12_text 106 = .ok (.iconst 1, 1) := by decide +kernel
theorem dX12_text_107 : decode cX12_text 107 = .ok (.isub, 1) := by decide +kernel
theorem dX12_text_108 : decode cX12_text 108 = .ok (.ireturn, 1) := by decide +kernel
theorem dX12_force_0 : decode cX12_force 0 = .ok (.iload_n 1, 1) := by decide +kernel
theorem dX12_force_1 : decode cX12_force 1 = .ok (.i2l, 1) := by decide +kernel
theorem dX12_force_2 : decode cX12_force 2 = .ok (.lconst 0, 1) := by decide +kernel
theorem dX12_force_3 : decode cX12_force 3 = .ok (.aload_n 0, 1) := by decide +kernel
theorem dX12_force_4 : decode cX12_force 4 = .ok (.getfield 76, 3) := by decide +kernel
theorem dX12_force_7 : decode cX12_force 7 = .ok (.iconst 1, 1) := by decide +kernel
theorem dX12_force_8 : decode cX12_force 8 = .ok (.isub, 1) := by decide +kernel
theorem dX12_force_9 : decode cX12_force 9 = .ok (.i2l, 1) := by decide +kernel
theorem dX12_force_10 : decode cX12_force 10 = .ok (.invokestatic 82, 3) := by decide +kernel
theorem dX12_force_13 : decode cX12_force 13 = .ok (.ifCond .ne 6, 3) := by decide +kernel
theorem dX12_force_16 : decode cX12_force 16 = .ok (.bipush (-2), 2) := by decide +kernel
theorem dX12_force_18 : decode cX12_force 18 = .ok (.ireturn, 1) := by decide +kernel
theorem dX12_force_19 : decode cX12_force 19 = .ok (.aload_n 0, 1) := by decide +kernel
theorem dX12_force_20 : decode cX12_force 20 = .ok (.getfield 239, 3) := by decide +kernel
theorem dX12_force_23 : decode cX12_force 23 = .ok (.istore_n 2, 1) := by decide +kernel
theorem dX12_force_24 : decode cX12_force 24 = .ok (.aload_n 0, 1) := by decide +kernel
theorem dX12_force_25 : decode cX12_force 25 = .ok (.iload_n 1, 1) := by decide +kernel
theorem dX12_force_26 : decode cX12_force 26 = .ok (.putfield 239, 3) := by decide +kernel
theorem dX12_force_29 : decode cX12_force 29 = .ok (.iload_n 2, 1) := by decide +kernel
theorem dX12_force_30 : decode cX12_force 30 = .ok (.ireturn, 1) := by decide +kernel
theorem dX12_says_0 : decode cX12_says 0 = .ok (.aload_n 0, 1) := by decide +kernel
theorem dX12_says_1 : decode cX12_says 1 = .ok (.iload_n 3, 1) := by decide +kernel
theorem dX12_says_2 : decode cX12_says 2 = .ok (.putfield 181, 3) := by decide +kernel
theorem dX12_says_5 : decode cX12_says 5 = .ok (.aload_n 0, 1) := by decide +kernel
theorem dX12_says_6 : decode cX12_says 6 = .ok (.aload_n 0, 1) := by decide +kernel
theorem dX12_says_7 : decode cX12_says 7 = .ok (.getfield 109, 3) := by decide +kernel
theorem dX12_says_10 : decode cX12_says 10 = .ok (.putfield 184, 3) := by decide +kernel
theorem dX12_says_13 : decode cX12_says 13 = .ok (.aload_n 0, 1) := by decide +kernel
theorem dX12_says_14 : decode cX12_says 14 = .ok (.aload_n 0, 1) := by decide +kernel
theorem dX12_says_15 : decode cX12_says 15 = .ok (.getfield 26, 3) := by decide +kernel
theorem dX12_says_18 : decode cX12_says 18 = .ok (.iload_n 2, 1) := by decide +kernel
theorem dX12_says_19 : decode cX12_says 19 = .ok (.iaload, 1) := by decide +kernel
theorem dX12_says_20 : decode cX12_says 20 = .ok (.putfield 187, 3) := by decide +kernel
theorem dX12_says_23 : decode cX12_says 23 = .ok (.aload_n 0, 1) := by decide +kernel
theorem dX12_says_24 : decode cX12_says 24 = .ok (.aload_n 0, 1) := by decide +kernel
theorem dX12_says_25 : decode cX12_says 25 = .ok (.getfield 29, 3) := by decide +kernel
theorem dX12_says_28 : decode cX12_says 28 = .ok (.iload_n 2, 1) := by decide +kernel
theorem dX12_says_29 : decode cX12_says 29 = .ok (.iaload, 1) := by decide +kernel
theorem dX12_says_30 : decode cX12_says 30 = .ok (.putfield 190, 3) := by decide +kernel
theorem dX12_says_33 : decode cX12_says 33 = .ok (.aload_n 0, 1) := by decide +kernel
theorem dX12_says_34 : decode cX12_says 34 = .ok (.iload 4, 2) := by decide +kernel
theorem dX12_says_36 : decode cX12_says 36 = .ok (.putfield 193, 3) := by decide +kernel
theorem dX12_says_39 : decode cX12_says 39 = .ok (.aload_n 0, 1) := by decide +kernel
theorem dX12_says_40 : decode cX12_says 40 = .ok (.iload 5, 2) := by decide +kernel
theorem dX12_says_42 : decode cX12_says 42 = .ok (.putfield 196, 3) := by decide +kernel
theorem dX12_says_45 : decode cX12_says 45 = .ok (.aload_n 0, 1) := by decide +kernel
theorem dX12_says_46 : decode cX12_says 46 = .ok (.aload_n 0, 1) := by decide +kernel
theorem dX12_says_47 : decode cX12_says 47 = .ok (.getfield 239, 3) := by decide +kernel
theorem dX12_says_50 : decode cX12_says 50 = .ok (.iload_n 1, 1) := by decide +kernel
theorem dX12_says_51 : decode cX12_says 51 = .ok (.invokevirtual 236, 3) := by decide +kernel
theorem dX12_says_54 : decode cX12_says 54 = .ok (.iconst 0, 1) := by decide +kernel
theorem dX12_says_55 : decode cX12_says 55 = .ok (.iload_n 1, 1) := by decide +kernel
theorem dX12_says_56 : decode cX12_says 56 = .ok (.iconst 2, 1) := by decide +kernel
theorem dX12_says_57 : decode cX12_says 57 = .ok (.if_icmp .ne 8, 3) := by decide +kernel
theorem dX12_says_60 : decode cX12_says 60 = .ok (.bipush 100, 2) := by decide +kernel
theorem dX12_says_62 : decode cX12_says 62 = .ok (.goto 5, 3) := by decide +kernel
theorem dX12_says_65 : decode cX12_says 65 = .ok (.bipush 99, 2) := by decide +kernel
theorem dX12_says_67 : decode cX12_says 67 = .ok (.invokestatic 242, 3) := by decide +kernel
theorem dX12_says_70 : decode cX12_says 70 = .ok (.ireturn, 1) := by decide +kernel
theorem dX12_plain_0 : decode cX12_plain 0 = .ok (.iload_n 0, 1) := by decide +kernel
theorem dX12_plain_1 : decode cX12_plain 1 = .ok (.ifCond .ge 8, 3) := by decide +kernel
theorem dX12_plain_4 : decode cX12_plain 4 = .ok (.iload_n 0, 1) := by decide +kernel
theorem dX12_plain_5 : decode cX12_plain 5 = .ok (.ineg, 1) := by decide +kernel
theorem dX12_plain_6 : decode cX12_plain 6 = .ok (.goto 4, 3) := by decide +kernel
theorem dX12_plain_9 : decode cX12_plain 9 = .ok (.iload_n 0, 1) := by decide +kernel
theorem dX12_plain_10 : decode cX12_plain 10 = .ok (.ireturn, 1) := by decide +kernel
theorem dX12_farOf_0 : decode cX12_farOf 0 = .ok (.iload_n 0, 1) := by decide +kernel
theorem dX12_farOf_1 : decode cX12_farOf 1 = .ok (.iconst 5, 1) := by decide +kernel
theorem dX12_farOf_2 : decode cX12_farOf 2 = .ok (.irem, 1) := by decide +kernel
theorem dX12_farOf_3 : decode cX12_farOf 3 = .ok (.iload_n 1, 1) := by decide +kernel
theorem dX12_farOf_4 : decode cX12_farOf 4 = .ok (.iconst 5, 1) := by decide +kernel
theorem dX12_farOf_5 : decode cX12_farOf 5 = .ok (.irem, 1) := by decide +kernel
theorem dX12_farOf_6 : decode cX12_farOf 6 = .ok (.isub, 1) := by decide +kernel
theorem dX12_farOf_7 : decode cX12_farOf 7 = .ok (.invokestatic 246, 3) := by decide +kernel
theorem dX12_farOf_10 : decode cX12_farOf 10 = .ok (.istore_n 2, 1) := by decide +kernel
theorem dX12_farOf_11 : decode cX12_farOf 11 = .ok (.iload_n 0, 1) := by decide +kernel
theorem dX12_farOf_12 : decode cX12_farOf 12 = .ok (.iconst 5, 1) := by decide +kernel
theorem dX12_farOf_13 : decode cX12_farOf 13 = .ok (.idiv, 1) := by decide +kernel
theorem dX12_farOf_14 : decode cX12_farOf 14 = .ok (.iload_n 1, 1) := by decide +kernel
theorem dX12_farOf_15 : decode cX12_farOf 15 = .ok (.iconst 5, 1) := by decide +kernel
theorem dX12_farOf_16 : decode cX12_farOf 16 = .ok (.idiv, 1) := by decide +kernel
theorem dX12_farOf_17 : decode cX12_farOf 17 = .ok (.isub, 1) := by decide +kernel
theorem dX12_farOf_18 : decode cX12_farOf 18 = .ok (.invokestatic 246, 3) := by decide +kernel
theorem dX12_farOf_21 : decode cX12_farOf 21 = .ok (.istore_n 3, 1) := by decide +kernel
theorem dX12_farOf_22 : decode cX12_farOf 22 = .ok (.iload_n 2, 1) := by decide +kernel
theorem dX12_farOf_23 : decode cX12_farOf 23 = .ok (.iload_n 3, 1) := by decide +kernel
theorem dX12_farOf_24 : decode cX12_farOf 24 = .ok (.if_icmp .le 7, 3) := by decide +kernel
theorem dX12_farOf_27 : decode cX12_farOf 27 = .ok (.iload_n 2, 1) := by decide +kernel
theorem dX12_farOf_28 : decode cX12_farOf 28 = .ok (.goto 4, 3) := by decide +kernel
theorem dX12_farOf_31 : decode cX12_farOf 31 = .ok (.iload_n 3, 1) := by decide +kernel
theorem dX12_farOf_32 : decode cX12_farOf 32 = .ok (.ireturn, 1) := by decide +kernel
theorem dX12_across_0 : decode cX12_across 0 = .ok (.iload_n 0, 1) := by decide +kernel
theorem dX12_across_1 : decode cX12_across 1 = .ok (.iload_n 0, 1) := by decide +kernel
theorem dX12_across_2 : decode cX12_across 2 = .ok (.iconst 5, 1) := by decide +kernel
theorem dX12_across_3 : decode cX12_across 3 = .ok (.irem, 1) := by decide +kernel
theorem dX12_across_4 : decode cX12_across 4 = .ok (.isub, 1) := by decide +kernel
theorem dX12_across_5 : decode cX12_across 5 = .ok (.iconst 4, 1) := by decide +kernel
theorem dX12_across_6 : decode cX12_across 6 = .ok (.iadd, 1) := by decide +kernel
theorem dX12_across_7 : decode cX12_across 7 = .ok (.iload_n 0, 1) := by decide +kernel
theorem dX12_across_8 : decode cX12_across 8 = .ok (.iconst 5, 1) := by decide +kernel
theorem dX12_across_9 : decode cX12_across 9 = .ok (.irem, 1) := by decide +kernel
theorem dX12_across_10 : decode cX12_across 10 = .ok (.isub, 1) := by decide +kernel
theorem dX12_across_11 : decode cX12_across 11 = .ok (.ireturn, 1) := by decide +kernel
theorem dX12_comesTo_0 : decode cX12_comesTo 0 = .ok (.aload_n 0, 1) := by decide +kernel
theorem dX12_comesTo_1 : decode cX12_comesTo 1 = .ok (.getfield 35, 3) := by decide +kernel
theorem dX12_comesTo_4 : decode cX12_comesTo 4 = .ok (.iload_n 1, 1) := by decide +kernel
theorem dX12_comesTo_5 : decode cX12_comesTo 5 = .ok (.iaload, 1) := by decide +kernel
theorem dX12_comesTo_6 : decode cX12_comesTo 6 = .ok (.istore_n 3, 1) := by decide +kernel
theorem dX12_comesTo_7 : decode cX12_comesTo 7 = .ok (.aload_n 0, 1) := by decide +kernel
theorem dX12_comesTo_8 : decode cX12_comesTo 8 = .ok (.getfield 41, 3) := by decide +kernel
theorem dX12_comesTo_11 : decode cX12_comesTo 11 = .ok (.iload_n 1, 1) := by decide +kernel
theorem dX12_comesTo_12 : decode cX12_comesTo 12 = .ok (.iaload, 1) := by decide +kernel
theorem dX12_comesTo_13 : decode cX12_comesTo 13 = .ok (.istore 4, 2) := by decide +kernel
theorem dX12_comesTo_15 : decode cX12_comesTo 15 = .ok (.iload_n 3, 1) := by decide +kernel
theorem dX12_comesTo_16 : decode cX12_comesTo 16 = .ok (.iconst 3, 1) := by decide +kernel
theorem dX12_comesTo_17 : decode cX12_comesTo 17 = .ok (.if_icmp .ne 20, 3) := by decide +kernel
theorem dX12_comesTo_20 : decode cX12_comesTo 20 = .ok (.iload 4, 2) := by decide +kernel
theorem dX12_comesTo_22 : decode cX12_comesTo 22 = .ok (.bipush 20, 2) := by decide +kernel
theorem dX12_comesTo_24 : decode cX12_comesTo 24 = .ok (.if_icmp .ge 10, 3) := by decide +kernel
theorem dX12_comesTo_27 : decode cX12_comesTo 27 = .ok (.iload 4, 2) := by decide +kernel
theorem dX12_comesTo_29 : decode cX12_comesTo 29 = .ok (.iconst 5, 1) := by decide +kernel
theorem dX12_comesTo_30 : decode cX12_comesTo 30 = .ok (.iadd, 1) := by decide +kernel
theorem dX12_comesTo_31 : decode cX12_comesTo 31 = .ok (.goto 5, 3) := by decide +kernel
theorem dX12_comesTo_34 : decode cX12_comesTo 34 = .ok (.iload 4, 2) := by decide +kernel
theorem dX12_comesTo_36 : decode cX12_comesTo 36 = .ok (.ireturn, 1) := by decide +kernel
theorem dX12_comesTo_37 : decode cX12_comesTo 37 = .ok (.iload_n 3, 1) := by decide +kernel
theorem dX12_comesTo_38 : decode cX12_comesTo 38 = .ok (.iconst 4, 1) := by decide +kernel
theorem dX12_comesTo_39 : decode cX12_comesTo 39 = .ok (.if_icmp .eq 15, 3) := by decide +kernel
theorem dX12_comesTo_42 : decode cX12_comesTo 42 = .ok (.iload_n 3, 1) := by decide +kernel
theorem dX12_comesTo_43 : decode cX12_comesTo 43 = .ok (.iconst 5, 1) := by decide +kernel
theorem dX12_comesTo_44 : decode cX12_comesTo 44 = .ok (.if_icmp .ne 18, 3) := by decide +kernel
theorem dX12_comesTo_47 : decode cX12_comesTo 47 = .ok (.iload_n 2, 1) := by decide +kernel
theorem dX12_comesTo_48 : decode cX12_comesTo 48 = .ok (.iconst 5, 1) := by decide +kernel
theorem dX12_comesTo_49 : decode cX12_comesTo 49 = .ok (.irem, 1) := by decide +kernel
theorem dX12_comesTo_50 : decode cX12_comesTo 50 = .ok (.iconst 2, 1) := by decide +kernel
theorem dX12_comesTo_51 : decode cX12_comesTo 51 = .ok (.if_icmp .ge 11, 3) := by decide +kernel
theorem dX12_comesTo_54 : decode cX12_comesTo 54 = .ok (.iload 4, 2) := by decide +kernel
theorem dX12_comesTo_56 : decode cX12_comesTo 56 = .ok (.invokestatic 249, 3) := by decide +kernel
theorem dX12_comesTo_59 : decode cX12_comesTo 59 = .ok (.goto 5, 3) := by decide +kernel
theorem dX12_comesTo_62 : decode cX12_comesTo 62 = .ok (.iload 4, 2) := by decide +kernel
theorem dX12_comesTo_64 : decode cX12_comesTo 64 = .ok (.ireturn, 1) := by decide +kernel
theorem dX12_tenthsOf_0 : decode cX12_tenthsOf 0 = .ok (.aload_n 0, 1) := by decide +kernel
theorem dX12_tenthsOf_1 : decode cX12_tenthsOf 1 = .ok (.getfield 35, 3) := by decide +kernel
theorem dX12_tenthsOf_4 : decode cX12_tenthsOf 4 = .ok (.iload_n 2, 1) := by decide +kernel
theorem dX12_tenthsOf_5 : decode cX12_tenthsOf 5 = .ok (.iaload, 1) := by decide +kernel
theorem dX12_tenthsOf_6 : decode cX12_tenthsOf 6 = .ok (.istore_n 3, 1) := by decide +kernel
theorem dX12_tenthsOf_7 : decode cX12_tenthsOf 7 = .ok (.aload_n 0, 1) := by decide +kernel
theorem dX12_tenthsOf_8 : decode cX12_tenthsOf 8 = .ok (.iload_n 2, 1) := by decide +kernel
theorem dX12_tenthsOf_9 : decode cX12_tenthsOf 9 = .ok (.aload_n 0, 1) := by decide +kernel
theorem dX12_tenthsOf_10 : decode cX12_tenthsOf 10 = .ok (.getfield 23, 3) := by decide +kernel
theorem dX12_tenthsOf_13 : decode cX12_tenthsOf 13 = .ok (.iload_n 1, 1) := by decide +kernel
theorem dX12_tenthsOf_14 : decode cX12_tenthsOf 14 = .ok (.iaload, 1) := by decide +kernel
theorem dX12_tenthsOf_15 : decode cX12_tenthsOf 15 = .ok (.invokevirtual 252, 3) := by decide +kernel
theorem dX12_tenthsOf_18 : decode cX12_tenthsOf 18 = .ok (.istore 4, 2) := by decide +kernel
theorem dX12_tenthsOf_20 : decode cX12_tenthsOf 20 = .ok (.aload_n 0, 1) := by decide +kernel
theorem dX12_tenthsOf_21 : decode cX12_tenthsOf 21 = .ok (.iconst 0, 1) := by decide +kernel
theorem dX12_tenthsOf_22 : decode cX12_tenthsOf 22 = .ok (.iload_n 1, 1) := by decide +kernel
theorem dX12_tenthsOf_23 : decode cX12_tenthsOf 23 = .ok (.aload_n 0, 1) := by decide +kernel
theorem dX12_tenthsOf_24 : decode cX12_tenthsOf 24 = .ok (.getfield 23, 3) := by decide +kernel
theorem dX12_tenthsOf_27 : decode cX12_tenthsOf 27 = .ok (.iload_n 1, 1) := by decide +kernel
theorem dX12_tenthsOf_28 : decode cX12_tenthsOf 28 = .ok (.iaload, 1) := by decide +kernel
theorem dX12_tenthsOf_29 : decode cX12_tenthsOf 29 = .ok (.iload 4, 2) := by decide +kernel
theorem dX12_tenthsOf_31 : decode cX12_tenthsOf 31 = .ok (.invokestatic 255, 3) := by decide +kernel
theorem dX12_tenthsOf_34 : decode cX12_tenthsOf 34 = .ok (.aload_n 0, 1) := by decide +kernel
theorem dX12_tenthsOf_35 : decode cX12_tenthsOf 35 = .ok (.getfield 38, 3) := by decide +kernel
theorem dX12_tenthsOf_38 : decode cX12_tenthsOf 38 = .ok (.iload_n 2, 1) := by decide +kernel
theorem dX12_tenthsOf_39 : decode cX12_tenthsOf 39 = .ok (.iaload, 1) := by decide +kernel
theorem dX12_tenthsOf_40 : decode cX12_tenthsOf 40 = .ok (.iload 4, 2) := by decide +kernel
theorem dX12_tenthsOf_42 : decode cX12_tenthsOf 42 = .ok (.invokevirtual 258, 3) := by decide +kernel
theorem dX12_tenthsOf_45 : decode cX12_tenthsOf 45 = .ok (.istore 5, 2) := by decide +kernel
theorem dX12_tenthsOf_47 : decode cX12_tenthsOf 47 = .ok (.iload_n 3, 1) := by decide +kernel
theorem dX12_tenthsOf_48 : decode cX12_tenthsOf 48 = .ok (.ifCond .ne 6, 3) := by decide +kernel
theorem dX12_tenthsOf_51 : decode cX12_tenthsOf 51 = .ok (.iload 5, 2) := by decide +kernel
theorem dX12_tenthsOf_53 : decode cX12_tenthsOf 53 = .ok (.ireturn, 1) := by decide +kernel
theorem dX12_tenthsOf_54 : decode cX12_tenthsOf 54 = .ok (.aload_n 0, 1) := by decide +kernel
theorem dX12_tenthsOf_55 : decode cX12_tenthsOf 55 = .ok (.getfield 109, 3) := by decide +kernel
theorem dX12_tenthsOf_58 : decode cX12_tenthsOf 58 = .ok (.bipush 20, 2) := by decide +kernel
theorem dX12_tenthsOf_60 : decode cX12_tenthsOf 60 = .ok (.if_icmp .ge 10, 3) := by decide +kernel
theorem dX12_tenthsOf_63 : decode cX12_tenthsOf 63 = .ok (.iload 5, 2) := by decide +kernel
theorem dX12_tenthsOf_65 : decode cX12_tenthsOf 65 = .ok (.iconst 2, 1) := by decide +kernel
theorem dX12_tenthsOf_66 : decode cX12_tenthsOf 66 = .ok (.idiv, 1) := by decide +kernel
theorem dX12_tenthsOf_67 : decode cX12_tenthsOf 67 = .ok (.goto 5, 3) := by decide +kernel
theorem dX12_tenthsOf_70 : decode cX12_tenthsOf 70 = .ok (.iload 5, 2) := by decide +kernel
theorem dX12_tenthsOf_72 : decode cX12_tenthsOf 72 = .ok (.istore 6, 2) := by decide +kernel
theorem dX12_tenthsOf_74 : decode cX12_tenthsOf 74 = .ok (.iload_n 3, 1) := by decide +kernel
theorem dX12_tenthsOf_75 : decode cX12_tenthsOf 75 = .ok (.iconst 2, 1) := by decide +kernel
theorem dX12_tenthsOf_76 : decode cX12_tenthsOf 76 = .ok (.if_icmp .eq 8, 3) := by decide +kernel
theorem dX12_tenthsOf_79 : decode cX12_tenthsOf 79 = .ok (.iload_n 3, 1) := by decide +kernel
theorem dX12_tenthsOf_80 : decode cX12_tenthsOf 80 = .ok (.iconst 4, 1) := by decide +kernel
theorem dX12_tenthsOf_81 : decode cX12_tenthsOf 81 = .ok (.if_icmp .ne 18, 3) := by decide +kernel
theorem dX12_tenthsOf_84 : decode cX12_tenthsOf 84 = .ok (.iload_n 3, 1) := by decide +kernel
theorem dX12_tenthsOf_85 : decode cX12_tenthsOf 85 = .ok (.iconst 4, 1) := by decide +kernel
theorem dX12_tenthsOf_86 : decode cX12_tenthsOf 86 = .ok (.if_icmp .ne 10, 3) := by decide +kernel
theorem dX12_tenthsOf_89 : decode cX12_tenthsOf 89 = .ok (.iload 6, 2) := by decide +kernel
theorem dX12_tenthsOf_91 : decode cX12_tenthsOf 91 = .ok (.iconst 3, 1) := by decide +kernel
theorem dX12_tenthsOf_92 : decode cX12_tenthsOf 92 = .ok (.iadd, 1) := by decide +kernel
theorem dX12_tenthsOf_93 : decode cX12_tenthsOf 93 = .ok (.goto 5, 3) := by decide +kernel
theorem dX12_tenthsOf_96 : decode cX12_tenthsOf 96 = .ok (.iload 6, 2) := by decide +kernel
theorem dX12_tenthsOf_98 : decode cX12_tenthsOf 98 = .ok (.ireturn, 1) := by decide +kernel
theorem dX12_tenthsOf_99 : decode cX12_tenthsOf 99 = .ok (.iload 5, 2) := by decide +kernel
theorem dX12_tenthsOf_101 : decode cX12_tenthsOf 101 = .ok (.aload_n 0, 1) := by decide +kernel
theorem dX12_tenthsOf_102 : decode cX12_tenthsOf 102 = .ok (.getfield 38, 3) := by decide +kernel
theorem dX12_tenthsOf_105 : decode cX12_tenthsOf 105 = .ok (.iload_n 2, 1) := by decide +kernel
theorem dX12_tenthsOf_106 : decode cX12_tenthsOf 106 = .ok (.iaload, 1) := by decide +kernel
theorem dX12_tenthsOf_107 : decode cX12_tenthsOf 107 = .ok (.iadd, 1) := by decide +kernel
theorem dX12_tenthsOf_108 : decode cX12_tenthsOf 108 = .ok (.istore 7, 2) := by decide +kernel
theorem dX12_tenthsOf_110 : decode cX12_tenthsOf 110 = .ok (.iload_n 3, 1) := by decide +kernel
theorem dX12_tenthsOf_111 : decode cX12_tenthsOf 111 = .ok (.iconst 3, 1) := by decide +kernel
theorem dX12_tenthsOf_112 : decode cX12_tenthsOf 112 = .ok (.if_icmp .ne 11, 3) := by decide +kernel
theorem dX12_tenthsOf_115 : decode cX12_tenthsOf 115 = .ok (.iload 7, 2) := by decide +kernel
theorem dX12_tenthsOf_117 : decode cX12_tenthsOf 117 = .ok (.bipush 10, 2) := by decide +kernel
theorem dX12_tenthsOf_119 : decode cX12_tenthsOf 119 = .ok (.iadd, 1) := by decide +kernel
theorem dX12_tenthsOf_120 : decode cX12_tenthsOf 120 = .ok (.goto 17, 3) := by decide +kernel
theorem dX12_tenthsOf_123 : decode cX12_tenthsOf 123 = .ok (.iload_n 3, 1) := by decide +kernel
theorem dX12_tenthsOf_124 : decode cX12_tenthsOf 124 = .ok (.iconst 5, 1) := by decide +kernel
theorem dX12_tenthsOf_125 : decode cX12_tenthsOf 125 = .ok (.if_icmp .ne 10, 3) := by decide +kernel
theorem dX12_tenthsOf_128 : decode cX12_tenthsOf 128 = .ok (.iload 7, 2) := by decide +kernel
theorem dX12_tenthsOf_130 : decode cX12_tenthsOf 130 = .ok (.iconst 2, 1) := by decide +kernel
theorem dX12_tenthsOf_131 : decode cX12_tenthsOf 131 = .ok (.isub, 1) := by decide +kernel
theorem dX12_tenthsOf_132 : decode cX12_tenthsOf 132 = .ok (.goto 5, 3) := by decide +kernel
theorem dX12_tenthsOf_135 : decode cX12_tenthsOf 135 = .ok (.iload 7, 2) := by decide +kernel
theorem dX12_tenthsOf_137 : decode cX12_tenthsOf 137 = .ok (.istore 8, 2) := by decide +kernel
theorem dX12_tenthsOf_139 : decode cX12_tenthsOf 139 = .ok (.iload 8, 2) := by decide +kernel
theorem dX12_tenthsOf_141 : decode cX12_tenthsOf 141 = .ok (.ifCond .ge 7, 3) := by decide +kernel
theorem dX12_tenthsOf_144 : decode cX12_tenthsOf 144 = .ok (.iconst 0, 1) := by decide +kernel
theorem dX12_tenthsOf_145 : decode cX12_tenthsOf 145 = .ok (.goto 5, 3) := by decide +kernel
theorem dX12_tenthsOf_148 : decode cX12_tenthsOf 148 = .ok (.iload 8, 2) := by decide +kernel
theorem dX12_tenthsOf_150 : decode cX12_tenthsOf 150 = .ok (.ireturn, 1) := by decide +kernel
theorem dX12_slipsOf_0 : decode cX12_slipsOf 0 = .ok (.aload_n 0, 1) := by decide +kernel
theorem dX12_slipsOf_1 : decode cX12_slipsOf 1 = .ok (.iload_n 2, 1) := by decide +kernel
theorem dX12_slipsOf_2 : decode cX12_slipsOf 2 = .ok (.aload_n 0, 1) := by decide +kernel
theorem dX12_slipsOf_3 : decode cX12_slipsOf 3 = .ok (.getfield 23, 3) := by decide +kernel
theorem dX12_slipsOf_6 : decode cX12_slipsOf 6 = .ok (.iload_n 1, 1) := by decide +kernel
theorem dX12_slipsOf_7 : decode cX12_slipsOf 7 = .ok (.iaload, 1) := by decide +kernel
theorem dX12_slipsOf_8 : decode cX12_slipsOf 8 = .ok (.invokevirtual 252, 3) := by decide +kernel
theorem dX12_slipsOf_11 : decode cX12_slipsOf 11 = .ok (.istore_n 3, 1) := by decide +kernel
theorem dX12_slipsOf_12 : decode cX12_slipsOf 12 = .ok (.aload_n 0, 1) := by decide +kernel
theorem dX12_slipsOf_13 : decode cX12_slipsOf 13 = .ok (.iconst 2, 1) := by decide +kernel
theorem dX12_slipsOf_14 : decode cX12_slipsOf 14 = .ok (.iload_n 1, 1) := by decide +kernel
theorem dX12_slipsOf_15 : decode cX12_slipsOf 15 = .ok (.aload_n 0, 1) := by decide +kernel
theorem dX12_slipsOf_16 : decode cX12_slipsOf 16 = .ok (.getfield 23, 3) := by decide +kernel
theorem dX12_slipsOf_19 : decode cX12_slipsOf 19 = .ok (.iload_n 1, 1) := by decide +kernel
theorem dX12_slipsOf_20 : decode cX12_slipsOf 20 = .ok (.iaload, 1) := by decide +kernel
theorem dX12_slipsOf_21 : decode cX12_slipsOf 21 = .ok (.iload_n 3, 1) := by decide +kernel
theorem dX12_slipsOf_22 : decode cX12_slipsOf 22 = .ok (.invokestatic 255, 3) := by decide +kernel
theorem dX12_slipsOf_25 : decode cX12_slipsOf 25 = .ok (.aload_n 0, 1) := by decide +kernel
theorem dX12_slipsOf_26 : decode cX12_slipsOf 26 = .ok (.getfield 38, 3) := by decide +kernel
theorem dX12_slipsOf_29 : decode cX12_slipsOf 29 = .ok (.iload_n 2, 1) := by decide +kernel
theorem dX12_slipsOf_30 : decode cX12_slipsOf 30 = .ok (.iaload, 1) := by decide +kernel
theorem dX12_slipsOf_31 : decode cX12_slipsOf 31 = .ok (.iload_n 3, 1) := by decide +kernel
theorem dX12_slipsOf_32 : decode cX12_slipsOf 32 = .ok (.invokevirtual 258, 3) := by decide +kernel
theorem dX12_slipsOf_35 : decode cX12_slipsOf 35 = .ok (.ireturn, 1) := by decide +kernel
theorem dX12_spendsOf_0 : decode cX12_spendsOf 0 = .ok (.aload_n 0, 1) := by decide +kernel
theorem dX12_spendsOf_1 : decode cX12_spendsOf 1 = .ok (.getfield 35, 3) := by decide +kernel
theorem dX12_spendsOf_4 : decode cX12_spendsOf 4 = .ok (.iload_n 1, 1) := by decide +kernel
theorem dX12_spendsOf_5 : decode cX12_spendsOf 5 = .ok (.iaload, 1) := by decide +kernel
theorem dX12_spendsOf_6 : decode cX12_spendsOf 6 = .ok (.istore_n 2, 1) := by decide +kernel
theorem dX12_spendsOf_7 : decode cX12_spendsOf 7 = .ok (.iload_n 2, 1) := by decide +kernel
theorem dX12_spendsOf_8 : decode cX12_spendsOf 8 = .ok (.iconst 3, 1) := by decide +kernel
theorem dX12_spendsOf_9 : decode cX12_spendsOf 9 = .ok (.if_icmp .ne 7, 3) := by decide +kernel
theorem dX12_spendsOf_12 : decode cX12_spendsOf 12 = .ok (.iconst 0, 1) := by decide +kernel
theorem dX12_spendsOf_13 : decode cX12_spendsOf 13 = .ok (.goto 36, 3) := by decide +kernel
theorem dX12_spendsOf_16 : decode cX12_spendsOf 16 = .ok (.iload_n 2, 1) := by decide +kernel
theorem dX12_spendsOf_17 : decode cX12_spendsOf 17 = .ok (.iconst 5, 1) := by decide +kernel
theorem dX12_spendsOf_18 : decode cX12_spendsOf 18 = .ok (.if_icmp .ne 7, 3) := by decide +kernel
theorem dX12_spendsOf_21 : decode cX12_spendsOf 21 = .ok (.iconst 3, 1) := by decide +kernel
theorem dX12_spendsOf_22 : decode cX12_spendsOf 22 = .ok (.goto 27, 3) := by decide +kernel
theorem dX12_spendsOf_25 : decode cX12_spendsOf 25 = .ok (.iload_n 2, 1) := by decide +kernel
theorem dX12_spendsOf_26 : decode cX12_spendsOf 26 = .ok (.iconst 2, 1) := by decide +kernel
theorem dX12_spendsOf_27 : decode cX12_spendsOf 27 = .ok (.if_icmp .eq 8, 3) := by decide +kernel
theorem dX12_spendsOf_30 : decode cX12_spendsOf 30 = .ok (.iload_n 2, 1) := by decide +kernel
theorem dX12_spendsOf_31 : decode cX12_spendsOf 31 = .ok (.iconst 4, 1) := by decide +kernel
theorem dX12_spendsOf_32 : decode cX12_spendsOf 32 = .ok (.if_icmp .ne 16, 3) := by decide +kernel
theorem dX12_spendsOf_35 : decode cX12_spendsOf 35 = .ok (.iconst 1, 1) := by decide +kernel
theorem dX12_spendsOf_36 : decode cX12_spendsOf 36 = .ok (.aload_n 0, 1) := by decide +kernel
theorem dX12_spendsOf_37 : decode cX12_spendsOf 37 = .ok (.getfield 38, 3) := by decide +kernel
theorem dX12_spendsOf_40 : decode cX12_spendsOf 40 = .ok (.iload_n 1, 1) := by decide +kernel
theorem dX12_spendsOf_41 : decode cX12_spendsOf 41 = .ok (.iaload, 1) := by decide +kernel
theorem dX12_spendsOf_42 : decode cX12_spendsOf 42 = .ok (.iconst 2, 1) := by decide +kernel
theorem dX12_spendsOf_43 : decode cX12_spendsOf 43 = .ok (.idiv, 1) := by decide +kernel
theorem dX12_spendsOf_44 : decode cX12_spendsOf 44 = .ok (.iadd, 1) := by decide +kernel
theorem dX12_spendsOf_45 : decode cX12_spendsOf 45 = .ok (.goto 4, 3) := by decide +kernel
theorem dX12_spendsOf_48 : decode cX12_spendsOf 48 = .ok (.iconst 1, 1) := by decide +kernel
theorem dX12_spendsOf_49 : decode cX12_spendsOf 49 = .ok (.ireturn, 1) := by decide +kernel
theorem dX12_needsOf_0 : decode cX12_needsOf 0 = .ok (.iload_n 2, 1) := by decide +kernel
theorem dX12_needsOf_1 : decode cX12_needsOf 1 = .ok (.iload_n 3, 1) := by decide +kernel
theorem dX12_needsOf_2 : decode cX12_needsOf 2 = .ok (.invokestatic 255, 3) := by decide +kernel
theorem dX12_needsOf_5 : decode cX12_needsOf 5 = .ok (.istore 4, 2) := by decide +kernel
theorem dX12_needsOf_7 : decode cX12_needsOf 7 = .ok (.aload_n 0, 1) := by decide +kernel
theorem dX12_needsOf_8 : decode cX12_needsOf 8 = .ok (.iconst 1, 1) := by decide +kernel
theorem dX12_needsOf_9 : decode cX12_needsOf 9 = .ok (.iload_n 1, 1) := by decide +kernel
theorem dX12_needsOf_10 : decode cX12_needsOf 10 = .ok (.iload 4, 2) := by decide +kernel
theorem dX12_needsOf_12 : decode cX12_needsOf 12 = .ok (.iconst 0, 1) := by decide +kernel
theorem dX12_needsOf_13 : decode cX12_needsOf 13 = .ok (.iload_n 2, 1) := by decide +kernel
theorem dX12_needsOf_14 : decode cX12_needsOf 14 = .ok (.invokevirtual 258, 3) := by decide +kernel
theorem dX12_needsOf_17 : decode cX12_needsOf 17 = .ok (.iload 4, 2) := by decide +kernel
theorem dX12_needsOf_19 : decode cX12_needsOf 19 = .ok (.imul, 1) := by decide +kernel
theorem dX12_needsOf_20 : decode cX12_needsOf 20 = .ok (.ireturn, 1) := by decide +kernel
theorem dX12_needs_0 : decode cX12_needs 0 = .ok (.iload_n 1, 1) := by decide +kernel
theorem dX12_needs_1 : decode cX12_needs 1 = .ok (.invokestatic 90, 3) := by decide +kernel
theorem dX12_needs_4 : decode cX12_needs 4 = .ok (.ifCond .eq 35, 3) := by decide +kernel
theorem dX12_needs_7 : decode cX12_needs 7 = .ok (.iload_n 2, 1) := by decide +kernel
theorem dX12_needs_8 : decode cX12_needs 8 = .ok (.i2l, 1) := by decide +kernel
theorem dX12_needs_9 : decode cX12_needs 9 = .ok (.lconst 0, 1) := by decide +kernel
theorem dX12_needs_10 : decode cX12_needs 10 = .ok (.ldc2_w 262, 3) := by decide +kernel
theorem dX12_needs_13 : decode cX12_needs 13 = .ok (.invokestatic 82, 3) := by decide +kernel
theorem dX12_needs_16 : decode cX12_needs 16 = .ok (.ifCond .eq 23, 3) := by decide +kernel
theorem dX12_needs_19 : decode cX12_needs 19 = .ok (.iload_n 2, 1) := by decide +kernel
theorem dX12_needs_20 : decode cX12_needs 20 = .ok (.bipush 100, 2) := by decide +kernel
theorem dX12_needs_22 : decode cX12_needs 22 = .ok (.idiv, 1) := by decide +kernel
theorem dX12_needs_23 : decode cX12_needs 23 = .ok (.invokestatic 116, 3) := by decide +kernel
theorem dX12_needs_26 : decode cX12_needs 26 = .ok (.ifCond .eq 13, 3) := by decide +kernel
theorem dX12_needs_29 : decode cX12_needs 29 = .ok (.iload_n 2, 1) := by decide +kernel
theorem dX12_needs_30 : decode cX12_needs 30 = .ok (.bipush 100, 2) := by decide +kernel
theorem dX12_needs_32 : decode cX12_needs 32 = .ok (.irem, 1) := by decide +kernel
theorem dX12_needs_33 : decode cX12_needs 33 = .ok (.invokestatic 116, 3) := by decide +kernel
theorem dX12_needs_36 : decode cX12_needs 36 = .ok (.ifCond .ne 6, 3) := by decide +kernel
theorem dX12_needs_39 : decode cX12_needs 39 = .ok (.bipush (-2), 2) := by decide +kernel
theorem dX12_needs_41 : decode cX12_needs 41 = .ok (.ireturn, 1) := by decide +kernel
theorem dX12_needs_42 : decode cX12_needs 42 = .ok (.aload_n 0, 1) := by decide +kernel
theorem dX12_needs_43 : decode cX12_needs 43 = .ok (.iload_n 1, 1) := by decide +kernel
theorem dX12_needs_44 : decode cX12_needs 44 = .ok (.iload_n 2, 1) := by decide +kernel
theorem dX12_needs_45 : decode cX12_needs 45 = .ok (.bipush 100, 2) := by decide +kernel
theorem dX12_needs_47 : decode cX12_needs 47 = .ok (.idiv, 1) := by decide +kernel
theorem dX12_needs_48 : decode cX12_needs 48 = .ok (.iload_n 2, 1) := by decide +kernel
theorem dX12_needs_49 : decode cX12_needs 49 = .ok (.bipush 100, 2) := by decide +kernel
theorem dX12_needs_51 : decode cX12_needs 51 = .ok (.irem, 1) := by decide +kernel
theorem dX12_needs_52 : decode cX12_needs 52 = .ok (.invokevirtual 264, 3) := by decide +kernel
theorem dX12_needs_55 : decode cX12_needs 55 = .ok (.ireturn, 1) := by decide +kernel
theorem dX12_shot_0 : decode cX12_shot 0 = .ok (.iload_n 1, 1) := by decide +kernel
theorem dX12_shot_1 : decode cX12_shot 1 = .ok (.invokestatic 90, 3) := by decide +kernel
theorem dX12_shot_4 : decode cX12_shot 4 = .ok (.ifCond .eq 23, 3) := by decide +kernel
theorem dX12_shot_7 : decode cX12_shot 7 = .ok (.aload_n 0, 1) := by decide +kernel
theorem dX12_shot_8 : decode cX12_shot 8 = .ok (.iload_n 2, 1) := by decide +kernel
theorem dX12_shot_9 : decode cX12_shot 9 = .ok (.invokevirtual 98, 3) := by decide +kernel
theorem dX12_shot_12 : decode cX12_shot 12 = .ok (.ifCond .eq 15, 3) := by decide +kernel
theorem dX12_shot_15 : decode cX12_shot 15 = .ok (.iload_n 3, 1) := by decide +kernel
theorem dX12_shot_16 : decode cX12_shot 16 = .ok (.i2l, 1) := by decide +kernel
theorem dX12_shot_17 : decode cX12_shot 17 = .ok (.lconst 0, 1) := by decide +kernel
theorem dX12_shot_18 : decode cX12_shot 18 = .ok (.ldc2_w 94, 3) := by decide +kernel
theorem dX12_shot_21 : decode cX12_shot 21 = .ok (.invokestatic 82, 3) := by decide +kernel
theorem dX12_shot_24 : decode cX12_shot 24 = .ok (.ifCond .ne 6, 3) := by decide +kernel
theorem dX12_shot_27 : decode cX12_shot 27 = .ok (.bipush (-2), 2) := by decide +kernel
theorem dX12_shot_29 : decode cX12_shot 29 = .ok (.ireturn, 1) := by decide +kernel
theorem dX12_shot_30 : decode cX12_shot 30 = .ok (.aload_n 0, 1) := by decide +kernel
theorem dX12_shot_31 : decode cX12_shot 31 = .ok (.iload_n 2, 1) := by decide +kernel
theorem dX12_shot_32 : decode cX12_shot 32 = .ok (.aload_n 0, 1) := by decide +kernel
theorem dX12_shot_33 : decode cX12_shot 33 = .ok (.getfield 23, 3) := by decide +kernel
theorem dX12_shot_36 : decode cX12_shot 36 = .ok (.iload_n 1, 1) := by decide +kernel
theorem dX12_shot_37 : decode cX12_shot 37 = .ok (.iaload, 1) := by decide +kernel
theorem dX12_shot_38 : decode cX12_shot 38 = .ok (.invokevirtual 252, 3) := by decide +kernel
theorem dX12_shot_41 : decode cX12_shot 41 = .ok (.istore 4, 2) := by decide +kernel
theorem dX12_shot_43 : decode cX12_shot 43 = .ok (.iload_n 3, 1) := by decide +kernel
theorem dX12_shot_44 : decode cX12_shot 44 = .ok (.iconst 3, 1) := by decide +kernel
theorem dX12_shot_45 : decode cX12_shot 45 = .ok (.if_icmp .ge 33, 3) := by decide +kernel
theorem dX12_shot_48 : decode cX12_shot 48 = .ok (.iload_n 3, 1) := by decide +kernel
theorem dX12_shot_49 : decode cX12_shot 49 = .ok (.ifCond .ne 8, 3) := by decide +kernel
theorem dX12_shot_52 : decode cX12_shot 52 = .ok (.iload 4, 2) := by decide +kernel
theorem dX12_shot_54 : decode cX12_shot 54 = .ok (.goto 23, 3) := by decide +kernel
theorem dX12_shot_57 : decode cX12_shot 57 = .ok (.iload_n 3, 1) := by decide +kernel
theorem dX12_shot_58 : decode cX12_shot 58 = .ok (.iconst 1, 1) := by decide +kernel
theorem dX12_shot_59 : decode cX12_shot 59 = .ok (.if_icmp .ne 12, 3) := by decide +kernel
theorem dX12_shot_62 : decode cX12_shot 62 = .ok (.aload_n 0, 1) := by decide +kernel
theorem dX12_shot_63 : decode cX12_shot 63 = .ok (.iload_n 1, 1) := by decide +kernel
theorem dX12_shot_64 : decode cX12_shot 64 = .ok (.iload_n 2, 1) := by decide +kernel
theorem dX12_shot_65 : decode cX12_shot 65 = .ok (.invokevirtual 267, 3) := by decide +kernel
theorem dX12_shot_68 : decode cX12_shot 68 = .ok (.goto 9, 3) := by decide +kernel
theorem dX12_shot_71 : decode cX12_shot 71 = .ok (.aload_n 0, 1) := by decide +kernel
theorem dX12_shot_72 : decode cX12_shot 72 = .ok (.iload_n 1, 1) := by decide +kernel
theorem dX12_shot_73 : decode cX12_shot 73 = .ok (.iload_n 2, 1) := by decide +kernel
theorem dX12_shot_74 : decode cX12_shot 74 = .ok (.invokevirtual 270, 3) := by decide +kernel
theorem dX12_shot_77 : decode cX12_shot 77 = .ok (.ireturn, 1) := by decide +kernel
theorem dX12_shot_78 : decode cX12_shot 78 = .ok (.iload_n 3, 1) := by decide +kernel
theorem dX12_shot_79 : decode cX12_shot 79 = .ok (.iconst 3, 1) := by decide +kernel
theorem dX12_shot_80 : decode cX12_shot 80 = .ok (.if_icmp .ne 11, 3) := by decide +kernel
theorem dX12_shot_83 : decode cX12_shot 83 = .ok (.aload_n 0, 1) := by decide +kernel
theorem dX12_shot_84 : decode cX12_shot 84 = .ok (.iload_n 2, 1) := by decide +kernel
theorem dX12_shot_85 : decode cX12_shot 85 = .ok (.invokevirtual 273, 3) := by decide +kernel
theorem dX12_shot_88 : decode cX12_shot 88 = .ok (.goto 20, 3) := by decide +kernel
theorem dX12_shot_91 : decode cX12_shot 91 = .ok (.aload_n 0, 1) := by decide +kernel
theorem dX12_shot_92 : decode cX12_shot 92 = .ok (.iconst 1, 1) := by decide +kernel
theorem dX12_shot_93 : decode cX12_shot 93 = .ok (.iload_n 1, 1) := by decide +kernel
theorem dX12_shot_94 : decode cX12_shot 94 = .ok (.isub, 1) := by decide +kernel
theorem dX12_shot_95 : decode cX12_shot 95 = .ok (.aload_n 0, 1) := by decide +kernel
theorem dX12_shot_96 : decode cX12_shot 96 = .ok (.getfield 23, 3) := by decide +kernel
theorem dX12_shot_99 : decode cX12_shot 99 = .ok (.iconst 1, 1) := by decide +kernel
theorem dX12_shot_100 : decode cX12_shot 100 = .ok (.iload_n 1, 1) := by decide +kernel
theorem dX12_shot_101 : decode cX12_shot 101 = .ok (.isub, 1) := by decide +kernel
theorem dX12_shot_102 : decode cX12_shot 102 = .ok (.iaload, 1) := by decide +kernel
theorem dX12_shot_103 : decode cX12_shot 103 = .ok (.iload 4, 2) := by decide +kernel
theorem dX12_shot_105 : decode cX12_shot 105 = .ok (.invokevirtual 264, 3) := by decide +kernel
theorem dX12_shot_108 : decode cX12_shot 108 = .ok (.ireturn, 1) := by decide +kernel
theorem dX12_tire_0 : decode cX12_tire 0 = .ok (.aload_n 0, 1) := by decide +kernel
theorem dX12_tire_1 : decode cX12_tire 1 = .ok (.getfield 26, 3) := by decide +kernel
theorem dX12_tire_4 : decode cX12_tire 4 = .ok (.iload_n 1, 1) := by decide +kernel
theorem dX12_tire_5 : decode cX12_tire 5 = .ok (.aload_n 0, 1) := by decide +kernel
theorem dX12_tire_6 : decode cX12_tire 6 = .ok (.getfield 26, 3) := by decide +kernel
theorem dX12_tire_9 : decode cX12_tire 9 = .ok (.iload_n 1, 1) := by decide +kernel
theorem dX12_tire_10 : decode cX12_tire 10 = .ok (.iaload, 1) := by decide +kernel
theorem dX12_tire_11 : decode cX12_tire 11 = .ok (.iload_n 2, 1) := by decide +kernel
theorem dX12_tire_12 : decode cX12_tire 12 = .ok (.isub, 1) := by decide +kernel
theorem dX12_tire_13 : decode cX12_tire 13 = .ok (.iconst 0, 1) := by decide +kernel
theorem dX12_tire_14 : decode cX12_tire 14 = .ok (.sipush 999, 3) := by decide +kernel
theorem dX12_tire_17 : decode cX12_tire 17 = .ok (.invokestatic 242, 3) := by decide +kernel
theorem dX12_tire_20 : decode cX12_tire 20 = .ok (.iastore, 1) := by decide +kernel
theorem dX12_tire_21 : decode cX12_tire 21 = .ok (.return_, 1) := by decide +kernel
theorem dX12_strikes_0 : decode cX12_strikes 0 = .ok (.iconst 1, 1) := by decide +kernel
theorem dX12_strikes_1 : decode cX12_strikes 1 = .ok (.iload_n 1, 1) := by decide +kernel
theorem dX12_strikes_2 : decode cX12_strikes 2 = .ok (.isub, 1) := by decide +kernel
theorem dX12_strikes_3 : decode cX12_strikes 3 = .ok (.istore_n 3, 1) := by decide +kernel
theorem dX12_strikes_4 : decode cX12_strikes 4 = .ok (.aload_n 0, 1) := by decide +kernel
theorem dX12_strikes_5 : decode cX12_strikes 5 = .ok (.aload_n 0, 1) := by decide +kernel
theorem dX12_strikes_6 : decode cX12_strikes 6 = .ok (.iload_n 2, 1) := by decide +kernel
theorem dX12_strikes_7 : decode cX12_strikes 7 = .ok (.aload_n 0, 1) := by decide +kernel
theorem dX12_strikes_8 : decode cX12_strikes 8 = .ok (.getfield 23, 3) := by decide +kernel
theorem dX12_strikes_11 : decode cX12_strikes 11 = .ok (.iload_n 1, 1) := by decide +kernel
theorem dX12_strikes_12 : decode cX12_strikes 12 = .ok (.iaload, 1) := by decide +kernel
theorem dX12_strikes_13 : decode cX12_strikes 13 = .ok (.invokevirtual 252, 3) := by decide +kernel
theorem dX12_strikes_16 : decode cX12_strikes 16 = .ok (.putfield 276, 3) := by decide +kernel
theorem dX12_strikes_19 : decode cX12_strikes 19 = .ok (.aload_n 0, 1) := by decide +kernel
theorem dX12_strikes_20 : decode cX12_strikes 20 = .ok (.iload_n 1, 1) := by decide +kernel
theorem dX12_strikes_21 : decode cX12_strikes 21 = .ok (.iload_n 2, 1) := by decide +kernel
theorem dX12_strikes_22 : decode cX12_strikes 22 = .ok (.invokevirtual 267, 3) := by decide +kernel
theorem dX12_strikes_25 : decode cX12_strikes 25 = .ok (.istore 4, 2) := by decide +kernel
theorem dX12_strikes_27 : decode cX12_strikes 27 = .ok (.aload_n 0, 1) := by decide +kernel
theorem dX12_strikes_28 : decode cX12_strikes 28 = .ok (.iload_n 1, 1) := by decide +kernel
theorem dX12_strikes_29 : decode cX12_strikes 29 = .ok (.aload_n 0, 1) := by decide +kernel
theorem dX12_strikes_30 : decode cX12_strikes 30 = .ok (.iload_n 2, 1) := by decide +kernel
theorem dX12_strikes_31 : decode cX12_strikes 31 = .ok (.invokevirtual 273, 3) := by decide +kernel
theorem dX12_strikes_34 : decode cX12_strikes 34 = .ok (.invokevirtual 279, 3) := by decide +kernel
theorem dX12_strikes_37 : decode cX12_strikes 37 = .ok (.aload_n 0, 1) := by decide +kernel
theorem dX12_strikes_38 : decode cX12_strikes 38 = .ok (.iload_n 3, 1) := by decide +kernel
theorem dX12_strikes_39 : decode cX12_strikes 39 = .ok (.aload_n 0, 1) := by decide +kernel
theorem dX12_strikes_40 : decode cX12_strikes 40 = .ok (.getfield 23, 3) := by decide +kernel
theorem dX12_strikes_43 : decode cX12_strikes 43 = .ok (.iload_n 3, 1) := by decide +kernel
theorem dX12_strikes_44 : decode cX12_strikes 44 = .ok (.iaload, 1) := by decide +kernel
theorem dX12_strikes_45 : decode cX12_strikes 45 = .ok (.aload_n 0, 1) := by decide +kernel
theorem dX12_strikes_46 : decode cX12_strikes 46 = .ok (.getfield 276, 3) := by decide +kernel
theorem dX12_strikes_49 : decode cX12_strikes 49 = .ok (.invokevirtual 264, 3) := by decide +kernel
theorem dX12_strikes_52 : decode cX12_strikes 52 = .ok (.iload 4, 2) := by decide +kernel
theorem dX12_strikes_54 : decode cX12_strikes 54 = .ok (.if_icmp .le 5, 3) := by decide +kernel
theorem dX12_strikes_57 : decode cX12_strikes 57 = .ok (.iconst 1, 1) := by decide +kernel
theorem dX12_strikes_58 : decode cX12_strikes 58 = .ok (.ireturn, 1) := by decide +kernel
theorem dX12_strikes_59 : decode cX12_strikes 59 = .ok (.aload_n 0, 1) := by decide +kernel
theorem dX12_strikes_60 : decode cX12_strikes 60 = .ok (.iload_n 3, 1) := by decide +kernel
theorem dX12_strikes_61 : decode cX12_strikes 61 = .ok (.aload_n 0, 1) := by decide +kernel
theorem dX12_strikes_62 : decode cX12_strikes 62 = .ok (.getfield 23, 3) := by decide +kernel
theorem dX12_strikes_65 : decode cX12_strikes 65 = .ok (.iload_n 3, 1) := by decide +kernel
theorem dX12_strikes_66 : decode cX12_strikes 66 = .ok (.iaload, 1) := by decide +kernel
theorem dX12_strikes_67 : decode cX12_strikes 67 = .ok (.aload_n 0, 1) := by decide +kernel
theorem dX12_strikes_68 : decode cX12_strikes 68 = .ok (.getfield 276, 3) := by decide +kernel
theorem dX12_strikes_71 : decode cX12_strikes 71 = .ok (.invokestatic 255, 3) := by decide +kernel
theorem dX12_strikes_74 : decode cX12_strikes 74 = .ok (.invokevirtual 279, 3) := by decide +kernel
theorem dX12_strikes_77 : decode cX12_strikes 77 = .ok (.aload_n 0, 1) := by decide +kernel
theorem dX12_strikes_78 : decode cX12_strikes 78 = .ok (.getfield 23, 3) := by decide +kernel
theorem dX12_strikes_81 : decode cX12_strikes 81 = .ok (.iload_n 3, 1) := by decide +kernel
theorem dX12_strikes_82 : decode cX12_strikes 82 = .ok (.aload_n 0, 1) := by decide +kernel
theorem dX12_strikes_83 : decode cX12_strikes 83 = .ok (.getfield 276, 3) := by decide +kernel
theorem dX12_strikes_86 : decode cX12_strikes 86 = .ok (.iastore, 1) := by decide +kernel
theorem dX12_strikes_87 : decode cX12_strikes 87 = .ok (.aload_n 0, 1) := by decide +kernel
theorem dX12_strikes_88 : decode cX12_strikes 88 = .ok (.getfield 32, 3) := by decide +kernel
theorem dX12_strikes_91 : decode cX12_strikes 91 = .ok (.iload_n 1, 1) := by decide +kernel
theorem dX12_strikes_92 : decode cX12_strikes 92 = .ok (.iaload, 1) := by decide +kernel
theorem dX12_strikes_93 : decode cX12_strikes 93 = .ok (.iconst (-1), 1) := by decide +kernel
theorem dX12_strikes_94 : decode cX12_strikes 94 = .ok (.if_icmp .eq 57, 3) := by decide +kernel
theorem dX12_strikes_97 : decode cX12_strikes 97 = .ok (.aload_n 0, 1) := by decide +kernel
theorem dX12_strikes_98 : decode cX12_strikes 98 = .ok (.iload_n 1, 1) := by decide +kernel
theorem dX12_strikes_99 : decode cX12_strikes 99 = .ok (.aload_n 0, 1) := by decide +kernel
theorem dX12_strikes_100 : decode cX12_strikes 100 = .ok (.getfield 23, 3) := by decide +kernel
theorem dX12_strikes_103 : decode cX12_strikes 103 = .ok (.iload_n 1, 1) := by decide +kernel
theorem dX12_strikes_104 : decode cX12_strikes 104 = .ok (.iaload, 1) := by decide +kernel
theorem dX12_strikes_105 : decode cX12_strikes 105 = .ok (.aload_n 0, 1) := by decide +kernel
theorem dX12_strikes_106 : decode cX12_strikes 106 = .ok (.getfield 32, 3) := by decide +kernel
theorem dX12_strikes_109 : decode cX12_strikes 109 = .ok (.iload_n 1, 1) := by decide +kernel
theorem dX12_strikes_110 : decode cX12_strikes 110 = .ok (.iaload, 1) := by decide +kernel
theorem dX12_strikes_111 : decode cX12_strikes 111 = .ok (.invokevirtual 264, 3) := by decide +kernel
theorem dX12_strikes_114 : decode cX12_strikes 114 = .ok (.iload 4, 2) := by decide +kernel
theorem dX12_strikes_116 : decode cX12_strikes 116 = .ok (.if_icmp .gt 35, 3) := by decide +kernel
theorem dX12_strikes_119 : decode cX12_strikes 119 = .ok (.aload_n 0, 1) := by decide +kernel
theorem dX12_strikes_120 : decode cX12_strikes 120 = .ok (.iload_n 1, 1) := by decide +kernel
theorem dX12_strikes_121 : decode cX12_strikes 121 = .ok (.aload_n 0, 1) := by decide +kernel
theorem dX12_strikes_122 : decode cX12_strikes 122 = .ok (.getfield 23, 3) := by decide +kernel
theorem dX12_strikes_125 : decode cX12_strikes 125 = .ok (.iload_n 1, 1) := by decide +kernel
theorem dX12_strikes_126 : decode cX12_strikes 126 = .ok (.iaload, 1) := by decide +kernel
theorem dX12_strikes_127 : decode cX12_strikes 127 = .ok (.aload_n 0, 1) := by decide +kernel
theorem dX12_strikes_128 : decode cX12_strikes 128 = .ok (.getfield 32, 3) := by decide +kernel
theorem dX12_strikes_131 : decode cX12_strikes 131 = .ok (.iload_n 1, 1) := by decide +kernel
theorem dX12_strikes_132 : decode cX12_strikes 132 = .ok (.iaload, 1) := by decide +kernel
theorem dX12_strikes_133 : decode cX12_strikes 133 = .ok (.invokestatic 255, 3) := by decide +kernel
theorem dX12_strikes_136 : decode cX12_strikes 136 = .ok (.invokevirtual 279, 3) := by decide +kernel
theorem dX12_strikes_139 : decode cX12_strikes 139 = .ok (.aload_n 0, 1) := by decide +kernel
theorem dX12_strikes_140 : decode cX12_strikes 140 = .ok (.getfield 23, 3) := by decide +kernel
theorem dX12_strikes_143 : decode cX12_strikes 143 = .ok (.iload_n 1, 1) := by decide +kernel
theorem dX12_strikes_144 : decode cX12_strikes 144 = .ok (.aload_n 0, 1) := by decide +kernel
theorem dX12_strikes_145 : decode cX12_strikes 145 = .ok (.getfield 32, 3) := by decide +kernel
theorem dX12_strikes_148 : decode cX12_strikes 148 = .ok (.iload_n 1, 1) := by decide +kernel
theorem dX12_strikes_149 : decode cX12_strikes 149 = .ok (.iaload, 1) := by decide +kernel
theorem dX12_strikes_150 : decode cX12_strikes 150 = .ok (.iastore, 1) := by decide +kernel
theorem dX12_strikes_151 : decode cX12_strikes 151 = .ok (.aload_n 0, 1) := by decide +kernel
theorem dX12_strikes_152 : decode cX12_strikes 152 = .ok (.aload_n 0, 1) := by decide +kernel
theorem dX12_strikes_153 : decode cX12_strikes 153 = .ok (.getfield 109, 3) := by decide +kernel
theorem dX12_strikes_156 : decode cX12_strikes 156 = .ok (.iconst 1, 1) := by decide +kernel
theorem dX12_strikes_157 : decode cX12_strikes 157 = .ok (.iadd, 1) := by decide +kernel
theorem dX12_strikes_158 : decode cX12_strikes 158 = .ok (.iconst 0, 1) := by decide +kernel
theorem dX12_strikes_159 : decode cX12_strikes 159 = .ok (.bipush 99, 2) := by decide +kernel
theorem dX12_strikes_161 : decode cX12_strikes 161 = .ok (.invokestatic 242, 3) := by decide +kernel
theorem dX12_strikes_164 : decode cX12_strikes 164 = .ok (.putfield 109, 3) := by decide +kernel
theorem dX12_strikes_167 : decode cX12_strikes 167 = .ok (.iconst 0, 1) := by decide +kernel
theorem dX12_strikes_168 : decode cX12_strikes 168 = .ok (.ireturn, 1) := by decide +kernel
theorem dX12_layAside_0 : decode cX12_layAside 0 = .ok (.iconst 0, 1) := by decide +kernel
theorem dX12_layAside_1 : decode cX12_layAside 1 = .ok (.istore_n 1, 1) := by decide +kernel
theorem dX12_layAside_2 : decode cX12_layAside 2 = .ok (.iload_n 1, 1) := by decide +kernel
theorem dX12_layAside_3 : decode cX12_layAside 3 = .ok (.iconst 2, 1) := by decide +kernel
theorem dX12_layAside_4 : decode cX12_layAside 4 = .ok (.if_icmp .ge 45, 3) := by decide +kernel
theorem dX12_layAside_7 : decode cX12_layAside 7 = .ok (.aload_n 0, 1) := by decide +kernel
theorem dX12_layAside_8 : decode cX12_layAside 8 = .ok (.getfield 44, 3) := by decide +kernel
theorem dX12_layAside_11 : decode cX12_layAside 11 = .ok (.aload_n 0, 1) := by decide +kernel
theorem dX12_layAside_12 : decode cX12_layAside 12 = .ok (.getfield 283, 3) := by decide +kernel
theorem dX12_layAside_15 : decode cX12_layAside 15 = .ok (.iload_n 1, 1) := by decide +kernel
theorem dX12_layAside_16 : decode cX12_layAside 16 = .ok (.iadd, 1) := by decide +kernel
theorem dX12_layAside_17 : decode cX12_layAside 17 = .ok (.aload_n 0, 1) := by decide +kernel
theorem dX12_layAside_18 : decode cX12_layAside 18 = .ok (.getfield 23, 3) := by decide +kernel
theorem dX12_layAside_21 : decode cX12_layAside 21 = .ok (.iload_n 1, 1) := by decide +kernel
theorem dX12_layAside_22 : decode cX12_layAside 22 = .ok (.iaload, 1) := by decide +kernel
theorem dX12_layAside_23 : decode cX12_layAside 23 = .ok (.iastore, 1) := by decide +kernel
theorem dX12_layAside_24 : decode cX12_layAside 24 = .ok (.aload_n 0, 1) := by decide +kernel
theorem dX12_layAside_25 : decode cX12_layAside 25 = .ok (.getfield 44, 3) := by decide +kernel
theorem dX12_layAside_28 : decode cX12_layAside 28 = .ok (.aload_n 0, 1) := by decide +kernel
theorem dX12_layAside_29 : decode cX12_layAside 29 = .ok (.getfield 283, 3) := by decide +kernel
theorem dX12_layAside_32 : decode cX12_layAside 32 = .ok (.iconst 2, 1) := by decide +kernel
theorem dX12_layAside_33 : decode cX12_layAside 33 = .ok (.iadd, 1) := by decide +kernel
theorem dX12_layAside_34 : decode cX12_layAside 34 = .ok (.iload_n 1, 1) := by decide +kernel
theorem dX12_layAside_35 : decode cX12_layAside 35 = .ok (.iadd, 1) := by decide +kernel
theorem dX12_layAside_36 : decode cX12_layAside 36 = .ok (.aload_n 0, 1) := by decide +kernel
theorem dX12_layAside_37 : decode cX12_layAside 37 = .ok (.getfield 26, 3) := by decide +kernel
theorem dX12_layAside_40 : decode cX12_layAside 40 = .ok (.iload_n 1, 1) := by decide +kernel
theorem dX12_layAside_41 : decode cX12_layAside 41 = .ok (.iaload, 1) := by decide +kernel
theorem dX12_layAside_42 : decode cX12_layAside 42 = .ok (.iastore, 1) := by decide +kernel
theorem dX12_layAside_43 : decode cX12_layAside 43 = .ok (.iinc 1 1, 3) := by decide +kernel
theorem dX12_layAside_46 : decode cX12_layAside 46 = .ok (.goto (-44), 3) := by decide +kernel
theorem dX12_layAside_49 : decode cX12_layAside 49 = .ok (.aload_n 0, 1) := by decide +kernel
theorem dX12_layAside_50 : decode cX12_layAside 50 = .ok (.getfield 44, 3) := by decide +kernel
theorem dX12_layAside_53 : decode cX12_layAside 53 = .ok (.aload_n 0, 1) := by decide +kernel
theorem dX12_layAside_54 : decode cX12_layAside 54 = .ok (.getfield 283, 3) := by decide +kernel
theorem dX12_layAside_57 : decode cX12_layAside 57 = .ok (.iconst 4, 1) := by decide +kernel
theorem dX12_layAside_58 : decode cX12_layAside 58 = .ok (.iadd, 1) := by decide +kernel
theorem dX12_layAside_59 : decode cX12_layAside 59 = .ok (.aload_n 0, 1) := by decide +kernel
theorem dX12_layAside_60 : decode cX12_layAside 60 = .ok (.getfield 109, 3) := by decide +kernel
theorem dX12_layAside_63 : decode cX12_layAside 63 = .ok (.iastore, 1) := by decide +kernel
theorem dX12_layAside_64 : decode cX12_layAside 64 = .ok (.aload_n 0, 1) := by decide +kernel
theorem dX12_layAside_65 : decode cX12_layAside 65 = .ok (.dup, 1) := by decide +kernel
theorem dX12_layAside_66 : decode cX12_layAside 66 = .ok (.getfield 283, 3) := by decide +kernel
theorem dX12_layAside_69 : decode cX12_layAside 69 = .ok (.iconst 5, 1) := by decide +kernel
theorem dX12_layAside_70 : decode cX12_layAside 70 = .ok (.iadd, 1) := by decide +kernel
theorem dX12_layAside_71 : decode cX12_layAside 71 = .ok (.putfield 283, 3) := by decide +kernel
theorem dX12_layAside_74 : decode cX12_layAside 74 = .ok (.return_, 1) := by decide +kernel
theorem dX12_takeBack_0 : decode cX12_takeBack 0 = .ok (.aload_n 0, 1) := by decide +kernel
theorem dX12_takeBack_1 : decode cX12_takeBack 1 = .ok (.dup, 1) := by decide +kernel
theorem dX12_takeBack_2 : decode cX12_takeBack 2 = .ok (.getfield 283, 3) := by decide +kernel
theorem dX12_takeBack_5 : decode cX12_takeBack 5 = .ok (.iconst 5, 1) := by decide +kernel
theorem dX12_takeBack_6 : decode cX12_takeBack 6 = .ok (.isub, 1) := by decide +kernel
theorem dX12_takeBack_7 : decode cX12_takeBack 7 = .ok (.putfield 283, 3) := by decide +kernel
theorem dX12_takeBack_10 : decode cX12_takeBack 10 = .ok (.iconst 0, 1) := by decide +kernel
theorem dX12_takeBack_11 : decode cX12_takeBack 11 = .ok (.istore_n 1, 1) := by decide +kernel
theorem dX12_takeBack_12 : decode cX12_takeBack 12 = .ok (.iload_n 1, 1) := by decide +kernel
theorem dX12_takeBack_13 : decode cX12_takeBack 13 = .ok (.iconst 2, 1) := by decide +kernel
theorem dX12_takeBack_14 : decode cX12_takeBack 14 = .ok (.if_icmp .ge 45, 3) := by decide +kernel
theorem dX12_takeBack_17 : decode cX12_takeBack 17 = .ok (.aload_n 0, 1) := by decide +kernel
theorem dX12_takeBack_18 : decode cX12_takeBack 18 = .ok (.getfield 23, 3) := by decide +kernel
theorem dX12_takeBack_21 : decode cX12_takeBack 21 = .ok (.iload_n 1, 1) := by decide +kernel
theorem dX12_takeBack_22 : decode cX12_takeBack 22 = .ok (.aload_n 0, 1) := by decide +kernel
theorem dX12_takeBack_23 : decode cX12_takeBack 23 = .ok (.getfield 44, 3) := by decide +kernel
theorem dX12_takeBack_26 : decode cX12_takeBack 26 = .ok (.aload_n 0, 1) := by decide +kernel
theorem dX12_takeBack_27 : decode cX12_takeBack 27 = .ok (.getfield 283, 3) := by decide +kernel
theorem dX12_takeBack_30 : decode cX12_takeBack 30 = .ok (.iload_n 1, 1) := by decide +kernel
theorem dX12_takeBack_31 : decode cX12_takeBack 31 = .ok (.iadd, 1) := by decide +kernel
theorem dX12_takeBack_32 : decode cX12_takeBack 32 = .ok (.iaload, 1) := by decide +kernel
theorem dX12_takeBack_33 : decode cX12_takeBack 33 = .ok (.iastore, 1) := by decide +kernel
theorem dX12_takeBack_34 : decode cX12_takeBack 34 = .ok (.aload_n 0, 1) := by decide +kernel
theorem dX12_takeBack_35 : decode cX12_takeBack 35 = .ok (.getfield 26, 3) := by decide +kernel
theorem dX12_takeBack_38 : decode cX12_takeBack 38 = .ok (.iload_n 1, 1) := by decide +kernel
theorem dX12_takeBack_39 : decode cX12_takeBack 39 = .ok (.aload_n 0, 1) := by decide +kernel
theorem dX12_takeBack_40 : decode cX12_takeBack 40 = .ok (.getfield 44, 3) := by decide +kernel
theorem dX12_takeBack_43 : decode cX12_takeBack 43 = .ok (.aload_n 0, 1) := by decide +kernel
theorem dX12_takeBack_44 : decode cX12_takeBack 44 = .ok (.getfield 283, 3) := by decide +kernel
theorem dX12_takeBack_47 : decode cX12_takeBack 47 = .ok (.iconst 2, 1) := by decide +kernel
theorem dX12_takeBack_48 : decode cX12_takeBack 48 = .ok (.iadd, 1) := by decide +kernel
theorem dX12_takeBack_49 : decode cX12_takeBack 49 = .ok (.iload_n 1, 1) := by decide +kernel
theorem dX12_takeBack_50 : decode cX12_takeBack 50 = .ok (.iadd, 1) := by decide +kernel
theorem dX12_takeBack_51 : decode cX12_takeBack 51 = .ok (.iaload, 1) := by decide +kernel
theorem dX12_takeBack_52 : decode cX12_takeBack 52 = .ok (.iastore, 1) := by decide +kernel
theorem dX12_takeBack_53 : decode cX12_takeBack 53 = .ok (.iinc 1 1, 3) := by decide +kernel
theorem dX12_takeBack_56 : decode cX12_takeBack 56 = .ok (.goto (-44), 3) := by decide +kernel
theorem dX12_takeBack_59 : decode cX12_takeBack 59 = .ok (.aload_n 0, 1) := by decide +kernel
theorem dX12_takeBack_60 : decode cX12_takeBack 60 = .ok (.aload_n 0, 1) := by decide +kernel
theorem dX12_takeBack_61 : decode cX12_takeBack 61 = .ok (.getfield 44, 3) := by decide +kernel
theorem dX12_takeBack_64 : decode cX12_takeBack 64 = .ok (.aload_n 0, 1) := by decide +kernel
theorem dX12_takeBack_65 : decode cX12_takeBack 65 = .ok (.getfield 283, 3) := by decide +kernel
theorem dX12_takeBack_68 : decode cX12_takeBack 68 = .ok (.iconst 4, 1) := by decide +kernel
theorem dX12_takeBack_69 : decode cX12_takeBack 69 = .ok (.iadd, 1) := by decide +kernel
theorem dX12_takeBack_70 : decode cX12_takeBack 70 = .ok (.iaload, 1) := by decide +kernel
theorem dX12_takeBack_71 : decode cX12_takeBack 71 = .ok (.putfield 109, 3) := by decide +kernel
theorem dX12_takeBack_74 : decode cX12_takeBack 74 = .ok (.return_, 1) := by decide +kernel
theorem dX12_goesOver_0 : decode cX12_goesOver 0 = .ok (.iload_n 0, 1) := by decide +kernel
theorem dX12_goesOver_1 : decode cX12_goesOver 1 = .ok (.iconst 5, 1) := by decide +kernel
theorem dX12_goesOver_2 : decode cX12_goesOver 2 = .ok (.irem, 1) := by decide +kernel
theorem dX12_goesOver_3 : decode cX12_goesOver 3 = .ok (.istore_n 3, 1) := by decide +kernel
theorem dX12_goesOver_4 : decode cX12_goesOver 4 = .ok (.iload_n 0, 1) := by decide +kernel
theorem dX12_goesOver_5 : decode cX12_goesOver 5 = .ok (.iconst 5, 1) := by decide +kernel
theorem dX12_goesOver_6 : decode cX12_goesOver 6 = .ok (.idiv, 1) := by decide +kernel
theorem dX12_goesOver_7 : decode cX12_goesOver 7 = .ok (.istore 4, 2) := by decide +kernel
theorem dX12_goesOver_9 : decode cX12_goesOver 9 = .ok (.iconst 0, 1) := by decide +kernel
theorem dX12_goesOver_10 : decode cX12_goesOver 10 = .ok (.istore 5, 2) := by decide +kernel
theorem dX12_goesOver_12 : decode cX12_goesOver 12 = .ok (.iload_n 3, 1) := by decide +kernel
theorem dX12_goesOver_13 : decode cX12_goesOver 13 = .ok (.iload_n 1, 1) := by decide +kernel
theorem dX12_goesOver_14 : decode cX12_goesOver 14 = .ok (.iconst 5, 1) := by decide +kernel
theorem dX12_goesOver_15 : decode cX12_goesOver 15 = .ok (.irem, 1) := by decide +kernel
theorem dX12_goesOver_16 : decode cX12_goesOver 16 = .ok (.if_icmp .ne 11, 3) := by decide +kernel
theorem dX12_goesOver_19 : decode cX12_goesOver 19 = .ok (.iload 4, 2) := by decide +kernel
theorem dX12_goesOver_21 : decode cX12_goesOver 21 = .ok (.iload_n 1, 1) := by decide +kernel
theorem dX12_goesOver_22 : decode cX12_goesOver 22 = .ok (.iconst 5, 1) := by decide +kernel
theorem dX12_goesOver_23 : decode cX12_goesOver 23 = .ok (.idiv, 1) := by decide +kernel
theorem dX12_goesOver_24 : decode cX12_goesOver 24 = .ok (.if_icmp .eq 84, 3) := by decide +kernel
theorem dX12_goesOver_27 : decode cX12_goesOver 27 = .ok (.iload_n 3, 1) := by decide +kernel
theorem dX12_goesOver_28 : decode cX12_goesOver 28 = .ok (.iload_n 3, 1) := by decide +kernel
theorem dX12_goesOver_29 : decode cX12_goesOver 29 = .ok (.iload_n 1, 1) := by decide +kernel
theorem dX12_goesOver_30 : decode cX12_goesOver 30 = .ok (.iconst 5, 1) := by decide +kernel
theorem dX12_goesOver_31 : decode cX12_goesOver 31 = .ok (.irem, 1) := by decide +kernel
theorem dX12_goesOver_32 : decode cX12_goesOver 32 = .ok (.if_icmp .ge 7, 3) := by decide +kernel
theorem dX12_goesOver_35 : decode cX12_goesOver 35 = .ok (.iconst 1, 1) := by decide +kernel
theorem dX12_goesOver_36 : decode cX12_goesOver 36 = .ok (.goto 15, 3) := by decide +kernel
theorem dX12_goesOver_39 : decode cX12_goesOver 39 = .ok (.iload_n 3, 1) := by decide +kernel
theorem dX12_goesOver_40 : decode cX12_goesOver 40 = .ok (.iload_n 1, 1) := by decide +kernel
theorem dX12_goesOver_41 : decode cX12_goesOver 41 = .ok (.iconst 5, 1) := by decide +kernel
theorem dX12_goesOver_42 : decode cX12_goesOver 42 = .ok (.irem, 1) := by decide +kernel
theorem dX12_goesOver_43 : decode cX12_goesOver 43 = .ok (.if_icmp .le 7, 3) := by decide +kernel
theorem dX12_goesOver_46 : decode cX12_goesOver 46 = .ok (.iconst (-1), 1) := by decide +kernel
theorem dX12_goesOver_47 : decode cX12_goesOver 47 = .ok (.goto 4, 3) := by decide +kernel
theorem dX12_goesOver_50 : decode cX12_goesOver 50 = .ok (.iconst 0, 1) := by decide +kernel
theorem dX12_goesOver_51 : decode cX12_goesOver 51 = .ok (.iadd, 1) := by decide +kernel
theorem dX12_goesOver_52 : decode cX12_goesOver 52 = .ok (.istore_n 3, 1) := by decide +kernel
theorem dX12_goesOver_53 : decode cX12_goesOver 53 = .ok (.iload 4, 2) := by decide +kernel
theorem dX12_goesOver_55 : decode cX12_goesOver 55 = .ok (.iload 4, 2) := by decide +kernel
theorem dX12_goesOver_57 : decode cX12_goesOver 57 = .ok (.iload_n 1, 1) := by decide +kernel
theorem dX12_goesOver_58 : decode cX12_goesOver 58 = .ok (.iconst 5, 1) := by decide +kernel
theorem dX12_goesOver_59 : decode cX12_goesOver 59 = .ok (.idiv, 1) := by decide +kernel
theorem dX12_goesOver_60 : decode cX12_goesOver 60 = .ok (.if_icmp .ge 7, 3) := by decide +kernel
theorem dX12_goesOver_63 : decode cX12_goesOver 63 = .ok (.iconst 1, 1) := by decide +kernel
theorem dX12_goesOver_64 : decode cX12_goesOver 64 = .ok (.goto 16, 3) := by decide +kernel
theorem dX12_goesOver_67 : decode cX12_goesOver 67 = .ok (.iload 4, 2) := by decide +kernel
theorem dX12_goesOver_69 : decode cX12_goesOver 69 = .ok (.iload_n 1, 1) := by decide +kernel
theorem dX12_goesOver_70 : decode cX12_goesOver 70 = .ok (.iconst 5, 1) := by decide +kernel
theorem dX12_goesOver_71 : decode cX12_goesOver 71 = .ok (.idiv, 1) := by decide +kernel
theorem dX12_goesOver_72 : decode cX12_goesOver 72 = .ok (.if_icmp .le 7, 3) := by decide +kernel
theorem dX12_goesOver_75 : decode cX12_goesOver 75 = .ok (.iconst (-1), 1) := by decide +kernel
theorem dX12_goesOver_76 : decode cX12_goesOver 76 = .ok (.goto 4, 3) := by decide +kernel
theorem dX12_goesOver_79 : decode cX12_goesOver 79 = .ok (.iconst 0, 1) := by decide +kernel
theorem dX12_goesOver_80 : decode cX12_goesOver 80 = .ok (.iadd, 1) := by decide +kernel
theorem dX12_goesOver_81 : decode cX12_goesOver 81 = .ok (.istore 4, 2) := by decide +kernel
theorem dX12_goesOver_83 : decode cX12_goesOver 83 = .ok (.iload 5, 2) := by decide +kernel
theorem dX12_goesOver_85 : decode cX12_goesOver 85 = .ok (.ifCond .ne 13, 3) := by decide +kernel
theorem dX12_goesOver_88 : decode cX12_goesOver 88 = .ok (.iconst 5, 1) := by decide +kernel
theorem dX12_goesOver_89 : decode cX12_goesOver 89 = .ok (.iload 4, 2) := by decide +kernel
theorem dX12_goesOver_91 : decode cX12_goesOver 91 = .ok (.imul, 1) := by decide +kernel
theorem dX12_goesOver_92 : decode cX12_goesOver 92 = .ok (.iload_n 3, 1) := by decide +kernel
theorem dX12_goesOver_93 : decode cX12_goesOver 93 = .ok (.iadd, 1) := by decide +kernel
theorem dX12_goesOver_94 : decode cX12_goesOver 94 = .ok (.iload_n 2, 1) := by decide +kernel
theorem dX12_goesOver_95 : decode cX12_goesOver 95 = .ok (.if_icmp .ne 7, 3) := by decide +kernel
theorem dX12_goesOver_98 : decode cX12_goesOver 98 = .ok (.iconst 1, 1) := by decide +kernel
theorem dX12_goesOver_99 : decode cX12_goesOver 99 = .ok (.goto 4, 3) := by decide +kernel
theorem dX12_goesOver_102 : decode cX12_goesOver 102 = .ok (.iconst 0, 1) := by decide +kernel
theorem dX12_goesOver_103 : decode cX12_goesOver 103 = .ok (.istore 5, 2) := by decide +kernel
theorem dX12_goesOver_105 : decode cX12_goesOver 105 = .ok (.goto (-93), 3) := by decide +kernel
theorem dX12_goesOver_108 : decode cX12_goesOver 108 = .ok (.iload 5, 2) := by decide +kernel
theorem dX12_goesOver_110 : decode cX12_goesOver 110 = .ok (.ireturn, 1) := by decide +kernel
theorem dX12_rallies_0 : decode cX12_rallies 0 = .ok (.aload_n 0, 1) := by decide +kernel
theorem dX12_rallies_1 : decode cX12_rallies 1 = .ok (.iconst (-1), 1) := by decide +kernel
theorem dX12_rallies_2 : decode cX12_rallies 2 = .ok (.putfield 286, 3) := by decide +kernel
theorem dX12_rallies_5 : decode cX12_rallies 5 = .ok (.aload_n 0, 1) := by decide +kernel
theorem dX12_rallies_6 : decode cX12_rallies 6 = .ok (.iconst 0, 1) := by decide +kernel
theorem dX12_rallies_7 : decode cX12_rallies 7 = .ok (.putfield 289, 3) := by decide +kernel
theorem dX12_rallies_10 : decode cX12_rallies 10 = .ok (.aload_n 0, 1) := by decide +kernel
theorem dX12_rallies_11 : decode cX12_rallies 11 = .ok (.ldc2_w 292, 3) := by decide +kernel
theorem dX12_rallies_14 : decode cX12_rallies 14 = .ok (.putfield 294, 3) := by decide +kernel
theorem dX12_rallies_17 : decode cX12_rallies 17 = .ok (.aload_n 0, 1) := by decide +kernel
theorem dX12_rallies_18 : decode cX12_rallies 18 = .ok (.iconst (-1), 1) := by decide +kernel
theorem dX12_rallies_19 : decode cX12_rallies 19 = .ok (.putfield 297, 3) := by decide +kernel
theorem dX12_rallies_22 : decode cX12_rallies 22 = .ok (.aload_n 0, 1) := by decide +kernel
theorem dX12_rallies_23 : decode cX12_rallies 23 = .ok (.getfield 286, 3) := by decide +kernel
theorem dX12_rallies_26 : decode cX12_rallies 26 = .ok (.iconst (-1), 1) := by decide +kernel
theorem dX12_rallies_27 : decode cX12_rallies 27 = .ok (.if_icmp .ne 152, 3) := by decide +kernel
theorem dX12_rallies_30 : decode cX12_rallies 30 = .ok (.aload_n 0, 1) := by decide +kernel
theorem dX12_rallies_31 : decode cX12_rallies 31 = .ok (.getfield 289, 3) := by decide +kernel
theorem dX12_rallies_34 : decode cX12_rallies 34 = .ok (.aload_n 0, 1) := by decide +kernel
theorem dX12_rallies_35 : decode cX12_rallies 35 = .ok (.getfield 66, 3) := by decide +kernel
theorem dX12_rallies_38 : decode cX12_rallies 38 = .ok (.iload_n 1, 1) := by decide +kernel
theorem dX12_rallies_39 : decode cX12_rallies 39 = .ok (.iaload, 1) := by decide +kernel
theorem dX12_rallies_40 : decode cX12_rallies 40 = .ok (.if_icmp .ge 139, 3) := by decide +kernel
theorem dX12_rallies_43 : decode cX12_rallies 43 = .ok (.aload_n 0, 1) := by decide +kernel
theorem dX12_rallies_44 : decode cX12_rallies 44 = .ok (.getfield 289, 3) := by decide +kernel
theorem dX12_rallies_47 : decode cX12_rallies 47 = .ok (.iconst 2, 1) := by decide +kernel
theorem dX12_rallies_48 : decode cX12_rallies 48 = .ok (.irem, 1) := by decide +kernel
theorem dX12_rallies_49 : decode cX12_rallies 49 = .ok (.istore_n 2, 1) := by decide +kernel
theorem dX12_rallies_50 : decode cX12_rallies 50 = .ok (.aload_n 0, 1) := by decide +kernel
theorem dX12_rallies_51 : decode cX12_rallies 51 = .ok (.getfield 69, 3) := by decide +kernel
theorem dX12_rallies_54 : decode cX12_rallies 54 = .ok (.bipush 40, 2) := by decide +kernel
theorem dX12_rallies_56 : decode cX12_rallies 56 = .ok (.iload_n 1, 1) := by decide +kernel
theorem dX12_rallies_57 : decode cX12_rallies 57 = .ok (.imul, 1) := by decide +kernel
theorem dX12_rallies_58 : decode cX12_rallies 58 = .ok (.aload_n 0, 1) := by decide +kernel
theorem dX12_rallies_59 : decode cX12_rallies 59 = .ok (.getfield 289, 3) := by decide +kernel
theorem dX12_rallies_62 : decode cX12_rallies 62 = .ok (.iadd, 1) := by decide +kernel
theorem dX12_rallies_63 : decode cX12_rallies 63 = .ok (.iaload, 1) := by decide +kernel
theorem dX12_rallies_64 : decode cX12_rallies 64 = .ok (.istore_n 3, 1) := by decide +kernel
theorem dX12_rallies_65 : decode cX12_rallies 65 = .ok (.aload_n 0, 1) := by decide +kernel
theorem dX12_rallies_66 : decode cX12_rallies 66 = .ok (.getfield 23, 3) := by decide +kernel
theorem dX12_rallies_69 : decode cX12_rallies 69 = .ok (.iload_n 2, 1) := by decide +kernel
theorem dX12_rallies_70 : decode cX12_rallies 70 = .ok (.iaload, 1) := by decide +kernel
theorem dX12_rallies_71 : decode cX12_rallies 71 = .ok (.istore 4, 2) := by decide +kernel
theorem dX12_rallies_73 : decode cX12_rallies 73 = .ok (.aload_n 0, 1) := by decide +kernel
theorem dX12_rallies_74 : decode cX12_rallies 74 = .ok (.getfield 23, 3) := by decide +kernel
theorem dX12_rallies_77 : decode cX12_rallies 77 = .ok (.iconst 1, 1) := by decide +kernel
theorem dX12_rallies_78 : decode cX12_rallies 78 = .ok (.iload_n 2, 1) := by decide +kernel
theorem dX12_rallies_79 : decode cX12_rallies 79 = .ok (.isub, 1) := by decide +kernel
theorem dX12_rallies_80 : decode cX12_rallies 80 = .ok (.iaload, 1) := by decide +kernel
theorem dX12_rallies_81 : decode cX12_rallies 81 = .ok (.istore 5, 2) := by decide +kernel
theorem dX12_rallies_83 : decode cX12_rallies 83 = .ok (.aload_n 0, 1) := by decide +kernel
theorem dX12_rallies_84 : decode cX12_rallies 84 = .ok (.aload_n 0, 1) := by decide +kernel
theorem dX12_rallies_85 : decode cX12_rallies 85 = .ok (.getfield 294, 3) := by decide +kernel
theorem dX12_rallies_88 : decode cX12_rallies 88 = .ok (.bipush 100, 2) := by decide +kernel
theorem dX12_rallies_90 : decode cX12_rallies 90 = .ok (.aload_n 0, 1) := by decide +kernel
theorem dX12_rallies_91 : decode cX12_rallies 91 = .ok (.iload_n 2, 1) := by decide +kernel
theorem dX12_rallies_92 : decode cX12_rallies 92 = .ok (.iload_n 3, 1) := by decide +kernel
theorem dX12_rallies_93 : decode cX12_rallies 93 = .ok (.invokevirtual 270, 3) := by decide +kernel
theorem dX12_rallies_96 : decode cX12_rallies 96 = .ok (.isub, 1) := by decide +kernel
theorem dX12_rallies_97 : decode cX12_rallies 97 = .ok (.i2l, 1) := by decide +kernel
theorem dX12_rallies_98 : decode cX12_rallies 98 = .ok (.lmul, 1) := by decide +kernel
theorem dX12_rallies_99 : decode cX12_rallies 99 = .ok (.ldc2_w 300, 3) := by decide +kernel
theorem dX12_rallies_102 : decode cX12_rallies 102 = .ok (.ldiv, 1) := by decide +kernel
theorem dX12_rallies_103 : decode cX12_rallies 103 = .ok (.putfield 294, 3) := by decide +kernel
theorem dX12_rallies_106 : decode cX12_rallies 106 = .ok (.aload_n 0, 1) := by decide +kernel
theorem dX12_rallies_107 : decode cX12_rallies 107 = .ok (.iload_n 2, 1) := by decide +kernel
theorem dX12_rallies_108 : decode cX12_rallies 108 = .ok (.iload_n 3, 1) := by decide +kernel
theorem dX12_rallies_109 : decode cX12_rallies 109 = .ok (.invokevirtual 302, 3) := by decide +kernel
theorem dX12_rallies_112 : decode cX12_rallies 112 = .ok (.ifCond .eq 11, 3) := by decide +kernel
theorem dX12_rallies_115 : decode cX12_rallies 115 = .ok (.aload_n 0, 1) := by decide +kernel
theorem dX12_rallies_116 : decode cX12_rallies 116 = .ok (.iload_n 2, 1) := by decide +kernel
theorem dX12_rallies_117 : decode cX12_rallies 117 = .ok (.putfield 286, 3) := by decide +kernel
theorem dX12_rallies_120 : decode cX12_rallies 120 = .ok (.goto 33, 3) := by decide +kernel
theorem dX12_rallies_123 : decode cX12_rallies 123 = .ok (.aload_n 0, 1) := by decide +kernel
theorem dX12_rallies_124 : decode cX12_rallies 124 = .ok (.getfield 297, 3) := by decide +kernel
theorem dX12_rallies_127 : decode cX12_rallies 127 = .ok (.iconst (-1), 1) := by decide +kernel
theorem dX12_rallies_128 : decode cX12_rallies 128 = .ok (.if_icmp .ne 25, 3) := by decide +kernel
theorem dX12_rallies_131 : decode cX12_rallies 131 = .ok (.iload 5, 2) := by decide +kernel
theorem dX12_rallies_133 : decode cX12_rallies 133 = .ok (.aload_n 0, 1) := by decide +kernel
theorem dX12_rallies_134 : decode cX12_rallies 134 = .ok (.getfield 276, 3) := by decide +kernel
theorem dX12_rallies_137 : decode cX12_rallies 137 = .ok (.iload 4, 2) := by decide +kernel
theorem dX12_rallies_139 : decode cX12_rallies 139 = .ok (.invokestatic 305, 3) := by decide +kernel
theorem dX12_rallies_142 : decode cX12_rallies 142 = .ok (.ifCond .eq 11, 3) := by decide +kernel
theorem dX12_rallies_145 : decode cX12_rallies 145 = .ok (.aload_n 0, 1) := by decide +kernel
theorem dX12_rallies_146 : decode cX12_rallies 146 = .ok (.aload_n 0, 1) := by decide +kernel
theorem dX12_rallies_147 : decode cX12_rallies 147 = .ok (.getfield 289, 3) := by decide +kernel
theorem dX12_rallies_150 : decode cX12_rallies 150 = .ok (.putfield 297, 3) := by decide +kernel
theorem dX12_rallies_153 : decode cX12_rallies 153 = .ok (.aload_n 0, 1) := by decide +kernel
theorem dX12_rallies_154 : decode cX12_rallies 154 = .ok (.getfield 47, 3) := by decide +kernel
theorem dX12_rallies_157 : decode cX12_rallies 157 = .ok (.aload_n 0, 1) := by decide +kernel
theorem dX12_rallies_158 : decode cX12_rallies 158 = .ok (.getfield 289, 3) := by decide +kernel
theorem dX12_rallies_161 : decode cX12_rallies 161 = .ok (.aload_n 0, 1) := by decide +kernel
theorem dX12_rallies_162 : decode cX12_rallies 162 = .ok (.getfield 276, 3) := by decide +kernel
theorem dX12_rallies_165 : decode cX12_rallies 165 = .ok (.iastore, 1) := by decide +kernel
theorem dX12_rallies_166 : decode cX12_rallies 166 = .ok (.aload_n 0, 1) := by decide +kernel
theorem dX12_rallies_167 : decode cX12_rallies 167 = .ok (.dup, 1) := by decide +kernel
theorem dX12_rallies_168 : decode cX12_rallies 168 = .ok (.getfield 289, 3) := by decide +kernel
theorem dX12_rallies_171 : decode cX12_rallies 171 = .ok (.iconst 1, 1) := by decide +kernel
theorem dX12_rallies_172 : decode cX12_rallies 172 = .ok (.iadd, 1) := by decide +kernel
theorem dX12_rallies_173 : decode cX12_rallies 173 = .ok (.putfield 289, 3) := by decide +kernel
theorem dX12_rallies_176 : decode cX12_rallies 176 = .ok (.goto (-154), 3) := by decide +kernel
theorem dX12_rallies_179 : decode cX12_rallies 179 = .ok (.return_, 1) := by decide +kernel
theorem dX12_rallyBad_0 : decode cX12_rallyBad 0 = .ok (.iload_n 1, 1) := by decide +kernel
theorem dX12_rallyBad_1 : decode cX12_rallyBad 1 = .ok (.invokestatic 309, 3) := by decide +kernel
theorem dX12_rallyBad_4 : decode cX12_rallyBad 4 = .ok (.ifCond .ne 6, 3) := by decide +kernel
theorem dX12_rallyBad_7 : decode cX12_rallyBad 7 = .ok (.bipush (-2), 2) := by decide +kernel
theorem dX12_rallyBad_9 : decode cX12_rallyBad 9 = .ok (.ireturn, 1) := by decide +kernel
theorem dX12_rallyBad_10 : decode cX12_rallyBad 10 = .ok (.aload_n 0, 1) := by decide +kernel
theorem dX12_rallyBad_11 : decode cX12_rallyBad 11 = .ok (.getfield 59, 3) := by decide +kernel
theorem dX12_rallyBad_14 : decode cX12_rallyBad 14 = .ok (.iload_n 1, 1) := by decide +kernel
theorem dX12_rallyBad_15 : decode cX12_rallyBad 15 = .ok (.baload, 1) := by decide +kernel
theorem dX12_rallyBad_16 : decode cX12_rallyBad 16 = .ok (.ifCond .ne 6, 3) := by decide +kernel
theorem dX12_rallyBad_19 : decode cX12_rallyBad 19 = .ok (.bipush (-11), 2) := by decide +kernel
theorem dX12_rallyBad_21 : decode cX12_rallyBad 21 = .ok (.ireturn, 1) := by decide +kernel
theorem dX12_rallyBad_22 : decode cX12_rallyBad 22 = .ok (.iconst 0, 1) := by decide +kernel
theorem dX12_rallyBad_23 : decode cX12_rallyBad 23 = .ok (.istore_n 2, 1) := by decide +kernel
theorem dX12_rallyBad_24 : decode cX12_rallyBad 24 = .ok (.iload_n 2, 1) := by decide +kernel
theorem dX12_rallyBad_25 : decode cX12_rallyBad 25 = .ok (.aload_n 0, 1) := by decide +kernel
theorem dX12_rallyBad_26 : decode cX12_rallyBad 26 = .ok (.getfield 66, 3) := by decide +kernel
theorem dX12_rallyBad_29 : decode cX12_rallyBad 29 = .ok (.iload_n 1, 1) := by decide +kernel
theorem dX12_rallyBad_30 : decode cX12_rallyBad 30 = .ok (.iaload, 1) := by decide +kernel
theorem dX12_rallyBad_31 : decode cX12_rallyBad 31 = .ok (.if_icmp .ge 30, 3) := by decide +kernel
theorem dX12_rallyBad_34 : decode cX12_rallyBad 34 = .ok (.aload_n 0, 1) := by decide +kernel
theorem dX12_rallyBad_35 : decode cX12_rallyBad 35 = .ok (.aload_n 0, 1) := by decide +kernel
theorem dX12_rallyBad_36 : decode cX12_rallyBad 36 = .ok (.getfield 69, 3) := by decide +kernel
theorem dX12_rallyBad_39 : decode cX12_rallyBad 39 = .ok (.bipush 40, 2) := by decide +kernel
theorem dX12_rallyBad_41 : decode cX12_rallyBad 41 = .ok (.iload_n 1, 1) := by decide +kernel
theorem dX12_rallyBad_42 : decode cX12_rallyBad 42 = .ok (.imul, 1) := by decide +kernel
theorem dX12_rallyBad_43 : decode cX12_rallyBad 43 = .ok (.iload_n 2, 1) := by decide +kernel
theorem dX12_rallyBad_44 : decode cX12_rallyBad 44 = .ok (.iadd, 1) := by decide +kernel
theorem dX12_rallyBad_45 : decode cX12_rallyBad 45 = .ok (.iaload, 1) := by decide +kernel
theorem dX12_rallyBad_46 : decode cX12_rallyBad 46 = .ok (.invokevirtual 98, 3) := by decide +kernel
theorem dX12_rallyBad_49 : decode cX12_rallyBad 49 = .ok (.ifCond .ne 6, 3) := by decide +kernel
theorem dX12_rallyBad_52 : decode cX12_rallyBad 52 = .ok (.bipush (-2), 2) := by decide +kernel
theorem dX12_rallyBad_54 : decode cX12_rallyBad 54 = .ok (.ireturn, 1) := by decide +kernel
theorem dX12_rallyBad_55 : decode cX12_rallyBad 55 = .ok (.iinc 2 1, 3) := by decide +kernel
theorem dX12_rallyBad_58 : decode cX12_rallyBad 58 = .ok (.goto (-34), 3) := by decide +kernel
theorem dX12_rallyBad_61 : decode cX12_rallyBad 61 = .ok (.iconst 0, 1) := by decide +kernel
theorem dX12_rallyBad_62 : decode cX12_rallyBad 62 = .ok (.ireturn, 1) := by decide +kernel
theorem dX12_rally_0 : decode cX12_rally 0 = .ok (.iload_n 1, 1) := by decide +kernel
theorem dX12_rally_1 : decode cX12_rally 1 = .ok (.invokestatic 309, 3) := by decide +kernel
theorem dX12_rally_4 : decode cX12_rally 4 = .ok (.ifCond .eq 15, 3) := by decide +kernel
theorem dX12_rally_7 : decode cX12_rally 7 = .ok (.iload_n 2, 1) := by decide +kernel
theorem dX12_rally_8 : decode cX12_rally 8 = .ok (.i2l, 1) := by decide +kernel
theorem dX12_rally_9 : decode cX12_rally 9 = .ok (.lconst 0, 1) := by decide +kernel
theorem dX12_rally_10 : decode cX12_rally 10 = .ok (.ldc2_w 88, 3) := by decide +kernel
theorem dX12_rally_13 : decode cX12_rally 13 = .ok (.invokestatic 82, 3) := by decide +kernel
theorem dX12_rally_16 : decode cX12_rally 16 = .ok (.ifCond .ne 6, 3) := by decide +kernel
theorem dX12_rally_19 : decode cX12_rally 19 = .ok (.bipush (-2), 2) := by decide +kernel
theorem dX12_rally_21 : decode cX12_rally 21 = .ok (.ireturn, 1) := by decide +kernel
theorem dX12_rally_22 : decode cX12_rally 22 = .ok (.aload_n 0, 1) := by decide +kernel
theorem dX12_rally_23 : decode cX12_rally 23 = .ok (.iload_n 1, 1) := by decide +kernel
theorem dX12_rally_24 : decode cX12_rally 24 = .ok (.invokevirtual 312, 3) := by decide +kernel
theorem dX12_rally_27 : decode cX12_rally 27 = .ok (.istore_n 3, 1) := by decide +kernel
theorem dX12_rally_28 : decode cX12_rally 28 = .ok (.iload_n 3, 1) := by decide +kernel
theorem dX12_rally_29 : decode cX12_rally 29 = .ok (.ifCond .eq 5, 3) := by decide +kernel
theorem dX12_rally_32 : decode cX12_rally 32 = .ok (.iload_n 3, 1) := by decide +kernel
theorem dX12_rally_33 : decode cX12_rally 33 = .ok (.ireturn, 1) := by decide +kernel
theorem dX12_rally_34 : decode cX12_rally 34 = .ok (.aload_n 0, 1) := by decide +kernel
theorem dX12_rally_35 : decode cX12_rally 35 = .ok (.invokevirtual 315, 3) := by decide +kernel
theorem dX12_rally_38 : decode cX12_rally 38 = .ok (.aload_n 0, 1) := by decide +kernel
theorem dX12_rally_39 : decode cX12_rally 39 = .ok (.iload_n 1, 1) := by decide +kernel
theorem dX12_rally_40 : decode cX12_rally 40 = .ok (.invokevirtual 318, 3) := by decide +kernel
theorem dX12_rally_43 : decode cX12_rally 43 = .ok (.iload_n 2, 1) := by decide +kernel
theorem dX12_rally_44 : decode cX12_rally 44 = .ok (.ifCond .ne 10, 3) := by decide +kernel
theorem dX12_rally_47 : decode cX12_rally 47 = .ok (.aload_n 0, 1) := by decide +kernel
theorem dX12_rally_48 : decode cX12_rally 48 = .ok (.getfield 286, 3) := by decide +kernel
theorem dX12_rally_51 : decode cX12_rally 51 = .ok (.goto 52, 3) := by decide +kernel
theorem dX12_rally_54 : decode cX12_rally 54 = .ok (.iload_n 2, 1) := by decide +kernel
theorem dX12_rally_55 : decode cX12_rally 55 = .ok (.iconst 1, 1) := by decide +kernel
theorem dX12_rally_56 : decode cX12_rally 56 = .ok (.if_icmp .ne 10, 3) := by decide +kernel
theorem dX12_rally_59 : decode cX12_rally 59 = .ok (.aload_n 0, 1) := by decide +kernel
theorem dX12_rally_60 : decode cX12_rally 60 = .ok (.getfield 289, 3) := by decide +kernel
theorem dX12_rally_63 : decode cX12_rally 63 = .ok (.goto 40, 3) := by decide +kernel
theorem dX12_rally_66 : decode cX12_rally 66 = .ok (.iload_n 2, 1) := by decide +kernel
theorem dX12_rally_67 : decode cX12_rally 67 = .ok (.iconst 4, 1) := by decide +kernel
theorem dX12_rally_68 : decode cX12_rally 68 = .ok (.if_icmp .ge 14, 3) := by decide +kernel
theorem dX12_rally_71 : decode cX12_rally 71 = .ok (.aload_n 0, 1) := by decide +kernel
theorem dX12_rally_72 : decode cX12_rally 72 = .ok (.getfield 26, 3) := by decide +kernel
theorem dX12_rally_75 : decode cX12_rally 75 = .ok (.iload_n 2, 1) := by decide +kernel
theorem dX12_rally_76 : decode cX12_rally 76 = .ok (.iconst 2, 1) := by decide +kernel
theorem dX12_rally_77 : decode cX12_rally 77 = .ok (.isub, 1) := by decide +kernel
theorem dX12_rally_78 : decode cX12_rally 78 = .ok (.iaload, 1) := by decide +kernel
theorem dX12_rally_79 : decode cX12_rally 79 = .ok (.goto 24, 3) := by decide +kernel
theorem dX12_rally_82 : decode cX12_rally 82 = .ok (.iload_n 2, 1) := by decide +kernel
theorem dX12_rally_83 : decode cX12_rally 83 = .ok (.bipush 6, 2) := by decide +kernel
theorem dX12_rally_85 : decode cX12_rally 85 = .ok (.if_icmp .ge 14, 3) := by decide +kernel
theorem dX12_rally_88 : decode cX12_rally 88 = .ok (.aload_n 0, 1) := by decide +kernel
theorem dX12_rally_89 : decode cX12_rally 89 = .ok (.getfield 23, 3) := by decide +kernel
theorem dX12_rally_92 : decode cX12_rally 92 = .ok (.iload_n 2, 1) := by decide +kernel
theorem dX12_rally_93 : decode cX12_rally 93 = .ok (.iconst 4, 1) := by decide +kernel
theorem dX12_rally_94 : decode cX12_rally 94 = .ok (.isub, 1) := by decide +kernel
theorem dX12_rally_95 : decode cX12_rally 95 = .ok (.iaload, 1) := by decide +kernel
theorem dX12_rally_96 : decode cX12_rally 96 = .ok (.goto 7, 3) := by decide +kernel
theorem dX12_rally_99 : decode cX12_rally 99 = .ok (.aload_n 0, 1) := by decide +kernel
theorem dX12_rally_100 : decode cX12_rally 100 = .ok (.getfield 109, 3) := by decide +kernel
theorem dX12_rally_103 : decode cX12_rally 103 = .ok (.istore 4, 2) := by decide +kernel
theorem dX12_rally_105 : decode cX12_rally 105 = .ok (.aload_n 0, 1) := by decide +kernel
theorem dX12_rally_106 : decode cX12_rally 106 = .ok (.invokevirtual 322, 3) := by decide +kernel
theorem dX12_rally_109 : decode cX12_rally 109 = .ok (.iload 4, 2) := by decide +kernel
theorem dX12_rally_111 : decode cX12_rally 111 = .ok (.ireturn, 1) := by decide +kernel
theorem dX12_play_0 : decode cX12_play 0 = .ok (.aload_n 0, 1) := by decide +kernel
theorem dX12_play_1 : decode cX12_play 1 = .ok (.iload_n 1, 1) := by decide +kernel
theorem dX12_play_2 : decode cX12_play 2 = .ok (.invokevirtual 312, 3) := by decide +kernel
theorem dX12_play_5 : decode cX12_play 5 = .ok (.istore_n 2, 1) := by decide +kernel
theorem dX12_play_6 : decode cX12_play 6 = .ok (.iload_n 2, 1) := by decide +kernel
theorem dX12_play_7 : decode cX12_play 7 = .ok (.ifCond .eq 5, 3) := by decide +kernel
theorem dX12_play_10 : decode cX12_play 10 = .ok (.iload_n 2, 1) := by decide +kernel
theorem dX12_play_11 : decode cX12_play 11 = .ok (.ireturn, 1) := by decide +kernel
theorem dX12_play_12 : decode cX12_play 12 = .ok (.aload_n 0, 1) := by decide +kernel
theorem dX12_play_13 : decode cX12_play 13 = .ok (.iload_n 1, 1) := by decide +kernel
theorem dX12_play_14 : decode cX12_play 14 = .ok (.invokevirtual 318, 3) := by decide +kernel
theorem dX12_play_17 : decode cX12_play 17 = .ok (.aload_n 0, 1) := by decide +kernel
theorem dX12_play_18 : decode cX12_play 18 = .ok (.getfield 286, 3) := by decide +kernel
theorem dX12_play_21 : decode cX12_play 21 = .ok (.ireturn, 1) := by decide +kernel
theorem dX12_likely_0 : decode cX12_likely 0 = .ok (.aload_n 0, 1) := by decide +kernel
theorem dX12_likely_1 : decode cX12_likely 1 = .ok (.iload_n 1, 1) := by decide +kernel
theorem dX12_likely_2 : decode cX12_likely 2 = .ok (.invokevirtual 312, 3) := by decide +kernel
theorem dX12_likely_5 : decode cX12_likely 5 = .ok (.ifCond .eq 7, 3) := by decide +kernel
theorem dX12_likely_8 : decode cX12_likely 8 = .ok (.ldc2_w 325, 3) := by decide +kernel
theorem dX12_likely_11 : decode cX12_likely 11 = .ok (.lreturn, 1) := by decide +kernel
theorem dX12_likely_12 : decode cX12_likely 12 = .ok (.aload_n 0, 1) := by decide +kernel
theorem dX12_likely_13 : decode cX12_likely 13 = .ok (.invokevirtual 315, 3) := by decide +kernel
theorem dX12_likely_16 : decode cX12_likely 16 = .ok (.aload_n 0, 1) := by decide +kernel
theorem dX12_likely_17 : decode cX12_likely 17 = .ok (.iload_n 1, 1) := by decide +kernel
theorem dX12_likely_18 : decode cX12_likely 18 = .ok (.invokevirtual 318, 3) := by decide +kernel
theorem dX12_likely_21 : decode cX12_likely 21 = .ok (.aload_n 0, 1) := by decide +kernel
theorem dX12_likely_22 : decode cX12_likely 22 = .ok (.invokevirtual 322, 3) := by decide +kernel
theorem dX12_likely_25 : decode cX12_likely 25 = .ok (.aload_n 0, 1) := by decide +kernel
theorem dX12_likely_26 : decode cX12_likely 26 = .ok (.getfield 294, 3) := by decide +kernel
theorem dX12_likely_29 : decode cX12_likely 29 = .ok (.lreturn, 1) := by decide +kernel
theorem dX12_valueOf_0 : decode cX12_valueOf 0 = .ok (.bipush (-2), 2) := by decide +kernel
theorem dX12_valueOf_2 : decode cX12_valueOf 2 = .ok (.istore_n 3, 1) := by decide +kernel
theorem dX12_valueOf_3 : decode cX12_valueOf 3 = .ok (.iconst (-1), 1) := by decide +kernel
theorem dX12_valueOf_4 : decode cX12_valueOf 4 = .ok (.istore 4, 2) := by decide +kernel
theorem dX12_valueOf_6 : decode cX12_valueOf 6 = .ok (.iload_n 2, 1) := by decide +kernel
theorem dX12_valueOf_7 : decode cX12_valueOf 7 = .ok (.ifCond .eq 10, 3) := by decide +kernel
theorem dX12_valueOf_10 : decode cX12_valueOf 10 = .ok (.aload_n 0, 1) := by decide +kernel
theorem dX12_valueOf_11 : decode cX12_valueOf 11 = .ok (.getfield 79, 3) := by decide +kernel
theorem dX12_valueOf_14 : decode cX12_valueOf 14 = .ok (.ifCond .ne 10, 3) := by decide +kernel
theorem dX12_valueOf_17 : decode cX12_valueOf 17 = .ok (.aload_n 0, 1) := by decide +kernel
theorem dX12_valueOf_18 : decode cX12_valueOf 18 = .ok (.iconst (-1), 1) := by decide +kernel
theorem dX12_valueOf_19 : decode cX12_valueOf 19 = .ok (.putfield 327, 3) := by decide +kernel
theorem dX12_valueOf_22 : decode cX12_valueOf 22 = .ok (.iconst 0, 1) := by decide +kernel
theorem dX12_valueOf_23 : decode cX12_valueOf 23 = .ok (.ireturn, 1) := by decide +kernel
theorem dX12_valueOf_24 : decode cX12_valueOf 24 = .ok (.iconst 0, 1) := by decide +kernel
theorem dX12_valueOf_25 : decode cX12_valueOf 25 = .ok (.istore 5, 2) := by decide +kernel
theorem dX12_valueOf_27 : decode cX12_valueOf 27 = .ok (.iload 5, 2) := by decide +kernel
theorem dX12_valueOf_29 : decode cX12_valueOf 29 = .ok (.aload_n 0, 1) := by decide +kernel
theorem dX12_valueOf_30 : decode cX12_valueOf 30 = .ok (.getfield 79, 3) := by decide +kernel
theorem dX12_valueOf_33 : decode cX12_valueOf 33 = .ok (.if_icmp .ge 62, 3) := by decide +kernel
theorem dX12_valueOf_36 : decode cX12_valueOf 36 = .ok (.iload_n 3, 1) := by decide +kernel
theorem dX12_valueOf_37 : decode cX12_valueOf 37 = .ok (.iconst 1, 1) := by decide +kernel
theorem dX12_valueOf_38 : decode cX12_valueOf 38 = .ok (.if_icmp .ge 57, 3) := by decide +kernel
theorem dX12_valueOf_41 : decode cX12_valueOf 41 = .ok (.aload_n 0, 1) := by decide +kernel
theorem dX12_valueOf_42 : decode cX12_valueOf 42 = .ok (.invokevirtual 315, 3) := by decide +kernel
theorem dX12_valueOf_45 : decode cX12_valueOf 45 = .ok (.aload_n 0, 1) := by decide +kernel
theorem dX12_valueOf_46 : decode cX12_valueOf 46 = .ok (.iload_n 1, 1) := by decide +kernel
theorem dX12_valueOf_47 : decode cX12_valueOf 47 = .ok (.iload 5, 2) := by decide +kernel
theorem dX12_valueOf_49 : decode cX12_valueOf 49 = .ok (.invokevirtual 302, 3) := by decide +kernel
theorem dX12_valueOf_52 : decode cX12_valueOf 52 = .ok (.ifCond .eq 7, 3) := by decide +kernel
theorem dX12_valueOf_55 : decode cX12_valueOf 55 = .ok (.iconst 1, 1) := by decide +kernel
theorem dX12_valueOf_56 : decode cX12_valueOf 56 = .ok (.goto 14, 3) := by decide +kernel
theorem dX12_valueOf_59 : decode cX12_valueOf 59 = .ok (.aload_n 0, 1) := by decide +kernel
theorem dX12_valueOf_60 : decode cX12_valueOf 60 = .ok (.iconst 1, 1) := by decide +kernel
theorem dX12_valueOf_61 : decode cX12_valueOf 61 = .ok (.iload_n 1, 1) := by decide +kernel
theorem dX12_valueOf_62 : decode cX12_valueOf 62 = .ok (.isub, 1) := by decide +kernel
theorem dX12_valueOf_63 : decode cX12_valueOf 63 = .ok (.iload_n 2, 1) := by decide +kernel
theorem dX12_valueOf_64 : decode cX12_valueOf 64 = .ok (.iconst 1, 1) := by decide +kernel
theorem dX12_valueOf_65 : decode cX12_valueOf 65 = .ok (.isub, 1) := by decide +kernel
theorem dX12_valueOf_66 : decode cX12_valueOf 66 = .ok (.invokevirtual 330, 3) := by decide +kernel
theorem dX12_valueOf_69 : decode cX12_valueOf 69 = .ok (.ineg, 1) := by decide +kernel
theorem dX12_valueOf_70 : decode cX12_valueOf 70 = .ok (.istore 6, 2) := by decide +kernel
theorem dX12_valueOf_72 : decode cX12_valueOf 72 = .ok (.aload_n 0, 1) := by decide +kernel
theorem dX12_valueOf_73 : decode cX12_valueOf 73 = .ok (.invokevirtual 322, 3) := by decide +kernel
theorem dX12_valueOf_76 : decode cX12_valueOf 76 = .ok (.iload 6, 2) := by decide +kernel
theorem dX12_valueOf_78 : decode cX12_valueOf 78 = .ok (.iload_n 3, 1) := by decide +kernel
theorem dX12_valueOf_79 : decode cX12_valueOf 79 = .ok (.if_icmp .le 10, 3) := by decide +kernel
theorem dX12_valueOf_82 : decode cX12_valueOf 82 = .ok (.iload 6, 2) := by decide +kernel
theorem dX12_valueOf_84 : decode cX12_valueOf 84 = .ok (.istore_n 3, 1) := by decide +kernel
theorem dX12_valueOf_85 : decode cX12_valueOf 85 = .ok (.iload 5, 2) := by decide +kernel
theorem dX12_valueOf_87 : decode cX12_valueOf 87 = .ok (.istore 4, 2) := by decide +kernel
theorem dX12_valueOf_89 : decode cX12_valueOf 89 = .ok (.iinc 5 1, 3) := by decide +kernel
theorem dX12_valueOf_92 : decode cX12_valueOf 92 = .ok (.goto (-65), 3) := by decide +kernel
theorem dX12_valueOf_95 : decode cX12_valueOf 95 = .ok (.aload_n 0, 1) := by decide +kernel
theorem dX12_valueOf_96 : decode cX12_valueOf 96 = .ok (.iload 4, 2) := by decide +kernel
theorem dX12_valueOf_98 : decode cX12_valueOf 98 = .ok (.putfield 327, 3) := by decide +kernel
theorem dX12_valueOf_101 : decode cX12_valueOf 101 = .ok (.iload_n 3, 1) := by decide +kernel
theorem dX12_valueOf_102 : decode cX12_valueOf 102 = .ok (.ireturn, 1) := by decide +kernel
theorem dX12_best_0 : decode cX12_best 0 = .ok (.iload_n 1, 1) := by decide +kernel
theorem dX12_best_1 : decode cX12_best 1 = .ok (.invokestatic 90, 3) := by decide +kernel
theorem dX12_best_4 : decode cX12_best 4 = .ok (.ifCond .eq 25, 3) := by decide +kernel
theorem dX12_best_7 : decode cX12_best 7 = .ok (.iload_n 2, 1) := by decide +kernel
theorem dX12_best_8 : decode cX12_best 8 = .ok (.i2l, 1) := by decide +kernel
theorem dX12_best_9 : decode cX12_best 9 = .ok (.lconst 0, 1) := by decide +kernel
theorem dX12_best_10 : decode cX12_best 10 = .ok (.ldc2_w 96, 3) := by decide +kernel
theorem dX12_best_13 : decode cX12_best 13 = .ok (.invokestatic 82, 3) := by decide +kernel
theorem dX12_best_16 : decode cX12_best 16 = .ok (.ifCond .eq 13, 3) := by decide +kernel
theorem dX12_best_19 : decode cX12_best 19 = .ok (.iload_n 3, 1) := by decide +kernel
theorem dX12_best_20 : decode cX12_best 20 = .ok (.i2l, 1) := by decide +kernel
theorem dX12_best_21 : decode cX12_best 21 = .ok (.lconst 0, 1) := by decide +kernel
theorem dX12_best_22 : decode cX12_best 22 = .ok (.lconst 1, 1) := by decide +kernel
theorem dX12_best_23 : decode cX12_best 23 = .ok (.invokestatic 82, 3) := by decide +kernel
theorem dX12_best_26 : decode cX12_best 26 = .ok (.ifCond .ne 6, 3) := by decide +kernel
theorem dX12_best_29 : decode cX12_best 29 = .ok (.bipush (-100), 2) := by decide +kernel
theorem dX12_best_31 : decode cX12_best 31 = .ok (.ireturn, 1) := by decide +kernel
theorem dX12_best_32 : decode cX12_best 32 = .ok (.aload_n 0, 1) := by decide +kernel
theorem dX12_best_33 : decode cX12_best 33 = .ok (.iload_n 1, 1) := by decide +kernel
theorem dX12_best_34 : decode cX12_best 34 = .ok (.iload_n 2, 1) := by decide +kernel
theorem dX12_best_35 : decode cX12_best 35 = .ok (.invokevirtual 330, 3) := by decide +kernel
theorem dX12_best_38 : decode cX12_best 38 = .ok (.istore 4, 2) := by decide +kernel
theorem dX12_best_40 : decode cX12_best 40 = .ok (.iload_n 3, 1) := by decide +kernel
theorem dX12_best_41 : decode cX12_best 41 = .ok (.ifCond .ne 8, 3) := by decide +kernel
theorem dX12_best_44 : decode cX12_best 44 = .ok (.iload 4, 2) := by decide +kernel
theorem dX12_best_46 : decode cX12_best 46 = .ok (.goto 7, 3) := by decide +kernel
theorem dX12_best_49 : decode cX12_best 49 = .ok (.aload_n 0, 1) := by decide +kernel
theorem dX12_best_50 : decode cX12_best 50 = .ok (.getfield 327, 3) := by decide +kernel
theorem dX12_best_53 : decode cX12_best 53 = .ok (.ireturn, 1) := by decide +kernel
theorem dX12_sure_0 : decode cX12_sure 0 = .ok (.iload_n 1, 1) := by decide +kernel
theorem dX12_sure_1 : decode cX12_sure 1 = .ok (.invokestatic 90, 3) := by decide +kernel
theorem dX12_sure_4 : decode cX12_sure 4 = .ok (.ifCond .ne 6, 3) := by decide +kernel
theorem dX12_sure_7 : decode cX12_sure 7 = .ok (.bipush (-2), 2) := by decide +kernel
theorem dX12_sure_9 : decode cX12_sure 9 = .ok (.ireturn, 1) := by decide +kernel
theorem dX12_sure_10 : decode cX12_sure 10 = .ok (.iconst 1, 1) := by decide +kernel
theorem dX12_sure_11 : decode cX12_sure 11 = .ok (.istore_n 2, 1) := by decide +kernel
theorem dX12_sure_12 : decode cX12_sure 12 = .ok (.iload_n 2, 1) := by decide +kernel
theorem dX12_sure_13 : decode cX12_sure 13 = .ok (.bipush 6, 2) := by decide +kernel
theorem dX12_sure_15 : decode cX12_sure 15 = .ok (.if_icmp .ge 21, 3) := by decide +kernel
theorem dX12_sure_18 : decode cX12_sure 18 = .ok (.aload_n 0, 1) := by decide +kernel
theorem dX12_sure_19 : decode cX12_sure 19 = .ok (.iload_n 1, 1) := by decide +kernel
theorem dX12_sure_20 : decode cX12_sure 20 = .ok (.iload_n 2, 1) := by decide +kernel
theorem dX12_sure_21 : decode cX12_sure 21 = .ok (.invokevirtual 330, 3) := by decide +kernel
theorem dX12_sure_24 : decode cX12_sure 24 = .ok (.iconst 1, 1) := by decide +kernel
theorem dX12_sure_25 : decode cX12_sure 25 = .ok (.if_icmp .ne 5, 3) := by decide +kernel
theorem dX12_sure_28 : decode cX12_sure 28 = .ok (.iload_n 2, 1) := by decide +kernel
theorem dX12_sure_29 : decode cX12_sure 29 = .ok (.ireturn, 1) := by decide +kernel
theorem dX12_sure_30 : decode cX12_sure 30 = .ok (.iinc 2 2, 3) := by decide +kernel
theorem dX12_sure_33 : decode cX12_sure 33 = .ok (.goto (-21), 3) := by decide +kernel
theorem dX12_sure_36 : decode cX12_sure 36 = .ok (.iconst (-1), 1) := by decide +kernel
theorem dX12_sure_37 : decode cX12_sure 37 = .ok (.ireturn, 1) := by decide +kernel
theorem dX12_badness_0 : decode cX12_badness 0 = .ok (.iconst 0, 1) := by decide +kernel
theorem dX12_badness_1 : decode cX12_badness 1 = .ok (.istore_n 3, 1) := by decide +kernel
theorem dX12_badness_2 : decode cX12_badness 2 = .ok (.iconst 1, 1) := by decide +kernel
theorem dX12_badness_3 : decode cX12_badness 3 = .ok (.istore 4, 2) := by decide +kernel
theorem dX12_badness_5 : decode cX12_badness 5 = .ok (.iconst 0, 1) := by decide +kernel
theorem dX12_badness_6 : decode cX12_badness 6 = .ok (.istore 5, 2) := by decide +kernel
theorem dX12_badness_8 : decode cX12_badness 8 = .ok (.iload 5, 2) := by decide +kernel
theorem dX12_badness_10 : decode cX12_badness 10 = .ok (.aload_n 0, 1) := by decide +kernel
theorem dX12_badness_11 : decode cX12_badness 11 = .ok (.getfield 79, 3) := by decide +kernel
theorem dX12_badness_14 : decode cX12_badness 14 = .ok (.if_icmp .ge 58, 3) := by decide +kernel
theorem dX12_badness_17 : decode cX12_badness 17 = .ok (.aload_n 0, 1) := by decide +kernel
theorem dX12_badness_18 : decode cX12_badness 18 = .ok (.iload_n 1, 1) := by decide +kernel
theorem dX12_badness_19 : decode cX12_badness 19 = .ok (.iload_n 2, 1) := by decide +kernel
theorem dX12_badness_20 : decode cX12_badness 20 = .ok (.aload_n 0, 1) := by decide +kernel
theorem dX12_badness_21 : decode cX12_badness 21 = .ok (.iload 5, 2) := by decide +kernel
theorem dX12_badness_23 : decode cX12_badness 23 = .ok (.aload_n 0, 1) := by decide +kernel
theorem dX12_badness_24 : decode cX12_badness 24 = .ok (.getfield 23, 3) := by decide +kernel
theorem dX12_badness_27 : decode cX12_badness 27 = .ok (.iconst 1, 1) := by decide +kernel
theorem dX12_badness_28 : decode cX12_badness 28 = .ok (.iload_n 1, 1) := by decide +kernel
theorem dX12_badness_29 : decode cX12_badness 29 = .ok (.isub, 1) := by decide +kernel
theorem dX12_badness_30 : decode cX12_badness 30 = .ok (.iaload, 1) := by decide +kernel
theorem dX12_badness_31 : decode cX12_badness 31 = .ok (.invokevirtual 252, 3) := by decide +kernel
theorem dX12_badness_34 : decode cX12_badness 34 = .ok (.invokevirtual 264, 3) := by decide +kernel
theorem dX12_badness_37 : decode cX12_badness 37 = .ok (.aload_n 0, 1) := by decide +kernel
theorem dX12_badness_38 : decode cX12_badness 38 = .ok (.iconst 1, 1) := by decide +kernel
theorem dX12_badness_39 : decode cX12_badness 39 = .ok (.iload_n 1, 1) := by decide +kernel
theorem dX12_badness_40 : decode cX12_badness 40 = .ok (.isub, 1) := by decide +kernel
theorem dX12_badness_41 : decode cX12_badness 41 = .ok (.iload 5, 2) := by decide +kernel
theorem dX12_badness_43 : decode cX12_badness 43 = .ok (.invokevirtual 267, 3) := by decide +kernel
theorem dX12_badness_46 : decode cX12_badness 46 = .ok (.isub, 1) := by decide +kernel
theorem dX12_badness_47 : decode cX12_badness 47 = .ok (.istore 6, 2) := by decide +kernel
theorem dX12_badness_49 : decode cX12_badness 49 = .ok (.iload 4, 2) := by decide +kernel
theorem dX12_badness_51 : decode cX12_badness 51 = .ok (.ifCond .ne 9, 3) := by decide +kernel
theorem dX12_badness_54 : decode cX12_badness 54 = .ok (.iload 6, 2) := by decide +kernel
theorem dX12_badness_56 : decode cX12_badness 56 = .ok (.iload_n 3, 1) := by decide +kernel
theorem dX12_badness_57 : decode cX12_badness 57 = .ok (.if_icmp .le 6, 3) := by decide +kernel
theorem dX12_badness_60 : decode cX12_badness 60 = .ok (.iload 6, 2) := by decide +kernel
theorem dX12_badness_62 : decode cX12_badness 62 = .ok (.istore_n 3, 1) := by decide +kernel
theorem dX12_badness_63 : decode cX12_badness 63 = .ok (.iconst 0, 1) := by decide +kernel
theorem dX12_badness_64 : decode cX12_badness 64 = .ok (.istore 4, 2) := by decide +kernel
theorem dX12_badness_66 : decode cX12_badness 66 = .ok (.iinc 5 1, 3) := by decide +kernel
theorem dX12_badness_69 : decode cX12_badness 69 = .ok (.goto (-61), 3) := by decide +kernel
theorem dX12_badness_72 : decode cX12_badness 72 = .ok (.iload_n 3, 1) := by decide +kernel
theorem dX12_badness_73 : decode cX12_badness 73 = .ok (.ireturn, 1) := by decide +kernel
theorem dX12_stand_0 : decode cX12_stand 0 = .ok (.iload_n 1, 1) := by decide +kernel
theorem dX12_stand_1 : decode cX12_stand 1 = .ok (.invokestatic 90, 3) := by decide +kernel
theorem dX12_stand_4 : decode cX12_stand 4 = .ok (.ifCond .eq 13, 3) := by decide +kernel
theorem dX12_stand_7 : decode cX12_stand 7 = .ok (.iload_n 2, 1) := by decide +kernel
theorem dX12_stand_8 : decode cX12_stand 8 = .ok (.i2l, 1) := by decide +kernel
theorem dX12_stand_9 : decode cX12_stand 9 = .ok (.lconst 0, 1) := by decide +kernel
theorem dX12_stand_10 : decode cX12_stand 10 = .ok (.lconst 1, 1) := by decide +kernel
theorem dX12_stand_11 : decode cX12_stand 11 = .ok (.invokestatic 82, 3) := by decide +kernel
theorem dX12_stand_14 : decode cX12_stand 14 = .ok (.ifCond .ne 7, 3) := by decide +kernel
theorem dX12_stand_17 : decode cX12_stand 17 = .ok (.ldc_w 333, 3) := by decide +kernel
theorem dX12_stand_20 : decode cX12_stand 20 = .ok (.ireturn, 1) := by decide +kernel
theorem dX12_stand_21 : decode cX12_stand 21 = .ok (.iconst (-1), 1) := by decide +kernel
theorem dX12_stand_22 : decode cX12_stand 22 = .ok (.istore_n 3, 1) := by decide +kernel
theorem dX12_stand_23 : decode cX12_stand 23 = .ok (.iconst 0, 1) := by decide +kernel
theorem dX12_stand_24 : decode cX12_stand 24 = .ok (.istore 4, 2) := by decide +kernel
theorem dX12_stand_26 : decode cX12_stand 26 = .ok (.iconst 0, 1) := by decide +kernel
theorem dX12_stand_27 : decode cX12_stand 27 = .ok (.istore 5, 2) := by decide +kernel
theorem dX12_stand_29 : decode cX12_stand 29 = .ok (.iload 5, 2) := by decide +kernel
theorem dX12_stand_31 : decode cX12_stand 31 = .ok (.bipush 25, 2) := by decide +kernel
theorem dX12_stand_33 : decode cX12_stand 33 = .ok (.if_icmp .ge 37, 3) := by decide +kernel
end
section
theorem dX12_stand_36 : decode cX12_stand 36 = .ok (.aload_n 0, 1) := by decide +kernel
theorem dX12_stand_37 : decode cX12_stand 37 = .ok (.iload_n 1, 1) := by decide +kernel
theorem dX12_stand_38 : decode cX12_stand 38 = .ok (.iload 5, 2) := by decide +kernel
theorem dX12_stand_40 : decode cX12_stand 40 = .ok (.invokevirtual 334, 3) := by decide +kernel
theorem dX12_stand_43 : decode cX12_stand 43 = .ok (.istore 6, 2) := by decide +kernel
theorem dX12_stand_45 : decode cX12_stand 45 = .ok (.iload_n 3, 1) := by decide +kernel
theorem dX12_stand_46 : decode cX12_stand 46 = .ok (.iconst (-1), 1) := by decide +kernel
theorem dX12_stand_47 : decode cX12_stand 47 = .ok (.if_icmp .eq 10, 3) := by decide +kernel
theorem dX12_stand_50 : decode cX12_stand 50 = .ok (.iload 6, 2) := by decide +kernel
theorem dX12_stand_52 : decode cX12_stand 52 = .ok (.iload 4, 2) := by decide +kernel
theorem dX12_stand_54 : decode cX12_stand 54 = .ok (.if_icmp .ge 10, 3) := by decide +kernel
theorem dX12_stand_57 : decode cX12_stand 57 = .ok (.iload 5, 2) := by decide +kernel
theorem dX12_stand_59 : decode cX12_stand 59 = .ok (.istore_n 3, 1) := by decide +kernel
theorem dX12_stand_60 : decode cX12_stand 60 = .ok (.iload 6, 2) := by decide +kernel
theorem dX12_stand_62 : decode cX12_stand 62 = .ok (.istore 4, 2) := by decide +kernel
theorem dX12_stand_64 : decode cX12_stand 64 = .ok (.iinc 5 1, 3) := by decide +kernel
theorem dX12_stand_67 : decode cX12_stand 67 = .ok (.goto (-38), 3) := by decide +kernel
theorem dX12_stand_70 : decode cX12_stand 70 = .ok (.iload_n 2, 1) := by decide +kernel
theorem dX12_stand_71 : decode cX12_stand 71 = .ok (.ifCond .ne 7, 3) := by decide +kernel
theorem dX12_stand_74 : decode cX12_stand 74 = .ok (.iload_n 3, 1) := by decide +kernel
theorem dX12_stand_75 : decode cX12_stand 75 = .ok (.goto 5, 3) := by decide +kernel
theorem dX12_stand_78 : decode cX12_stand 78 = .ok (.iload 4, 2) := by decide +kernel
theorem dX12_stand_80 : decode cX12_stand 80 = .ok (.ireturn, 1) := by decide +kernel
theorem dX12_tires_0 : decode cX12_tires 0 = .ok (.iload_n 1, 1) := by decide +kernel
theorem dX12_tires_1 : decode cX12_tires 1 = .ok (.invokestatic 90, 3) := by decide +kernel
theorem dX12_tires_4 : decode cX12_tires 4 = .ok (.ifCond .ne 6, 3) := by decide +kernel
theorem dX12_tires_7 : decode cX12_tires 7 = .ok (.bipush (-2), 2) := by decide +kernel
theorem dX12_tires_9 : decode cX12_tires 9 = .ok (.ireturn, 1) := by decide +kernel
theorem dX12_tires_10 : decode cX12_tires 10 = .ok (.iconst (-1), 1) := by decide +kernel
theorem dX12_tires_11 : decode cX12_tires 11 = .ok (.istore_n 2, 1) := by decide +kernel
theorem dX12_tires_12 : decode cX12_tires 12 = .ok (.iconst (-1), 1) := by decide +kernel
theorem dX12_tires_13 : decode cX12_tires 13 = .ok (.istore_n 3, 1) := by decide +kernel
theorem dX12_tires_14 : decode cX12_tires 14 = .ok (.aload_n 0, 1) := by decide +kernel
theorem dX12_tires_15 : decode cX12_tires 15 = .ok (.getfield 23, 3) := by decide +kernel
theorem dX12_tires_18 : decode cX12_tires 18 = .ok (.iconst 1, 1) := by decide +kernel
theorem dX12_tires_19 : decode cX12_tires 19 = .ok (.iload_n 1, 1) := by decide +kernel
theorem dX12_tires_20 : decode cX12_tires 20 = .ok (.isub, 1) := by decide +kernel
theorem dX12_tires_21 : decode cX12_tires 21 = .ok (.iaload, 1) := by decide +kernel
theorem dX12_tires_22 : decode cX12_tires 22 = .ok (.istore 4, 2) := by decide +kernel
theorem dX12_tires_24 : decode cX12_tires 24 = .ok (.iconst 0, 1) := by decide +kernel
theorem dX12_tires_25 : decode cX12_tires 25 = .ok (.istore 5, 2) := by decide +kernel
theorem dX12_tires_27 : decode cX12_tires 27 = .ok (.iload 5, 2) := by decide +kernel
theorem dX12_tires_29 : decode cX12_tires 29 = .ok (.aload_n 0, 1) := by decide +kernel
theorem dX12_tires_30 : decode cX12_tires 30 = .ok (.getfield 79, 3) := by decide +kernel
theorem dX12_tires_33 : decode cX12_tires 33 = .ok (.if_icmp .ge 54, 3) := by decide +kernel
theorem dX12_tires_36 : decode cX12_tires 36 = .ok (.aload_n 0, 1) := by decide +kernel
theorem dX12_tires_37 : decode cX12_tires 37 = .ok (.invokevirtual 315, 3) := by decide +kernel
theorem dX12_tires_40 : decode cX12_tires 40 = .ok (.aload_n 0, 1) := by decide +kernel
theorem dX12_tires_41 : decode cX12_tires 41 = .ok (.iload_n 1, 1) := by decide +kernel
theorem dX12_tires_42 : decode cX12_tires 42 = .ok (.iload 5, 2) := by decide +kernel
theorem dX12_tires_44 : decode cX12_tires 44 = .ok (.invokevirtual 302, 3) := by decide +kernel
theorem dX12_tires_47 : decode cX12_tires 47 = .ok (.istore 6, 2) := by decide +kernel
theorem dX12_tires_49 : decode cX12_tires 49 = .ok (.aload_n 0, 1) := by decide +kernel
theorem dX12_tires_50 : decode cX12_tires 50 = .ok (.invokevirtual 322, 3) := by decide +kernel
theorem dX12_tires_53 : decode cX12_tires 53 = .ok (.iload 4, 2) := by decide +kernel
theorem dX12_tires_55 : decode cX12_tires 55 = .ok (.aload_n 0, 1) := by decide +kernel
theorem dX12_tires_56 : decode cX12_tires 56 = .ok (.getfield 276, 3) := by decide +kernel
theorem dX12_tires_59 : decode cX12_tires 59 = .ok (.invokestatic 255, 3) := by decide +kernel
theorem dX12_tires_62 : decode cX12_tires 62 = .ok (.istore 7, 2) := by decide +kernel
theorem dX12_tires_64 : decode cX12_tires 64 = .ok (.iload 6, 2) := by decide +kernel
theorem dX12_tires_66 : decode cX12_tires 66 = .ok (.ifCond .ne 15, 3) := by decide +kernel
theorem dX12_tires_69 : decode cX12_tires 69 = .ok (.iload 7, 2) := by decide +kernel
theorem dX12_tires_71 : decode cX12_tires 71 = .ok (.iload_n 3, 1) := by decide +kernel
theorem dX12_tires_72 : decode cX12_tires 72 = .ok (.if_icmp .le 9, 3) := by decide +kernel
theorem dX12_tires_75 : decode cX12_tires 75 = .ok (.iload 5, 2) := by decide +kernel
theorem dX12_tires_77 : decode cX12_tires 77 = .ok (.istore_n 2, 1) := by decide +kernel
theorem dX12_tires_78 : decode cX12_tires 78 = .ok (.iload 7, 2) := by decide +kernel
theorem dX12_tires_80 : decode cX12_tires 80 = .ok (.istore_n 3, 1) := by decide +kernel
theorem dX12_tires_81 : decode cX12_tires 81 = .ok (.iinc 5 1, 3) := by decide +kernel
theorem dX12_tires_84 : decode cX12_tires 84 = .ok (.goto (-57), 3) := by decide +kernel
theorem dX12_tires_87 : decode cX12_tires 87 = .ok (.iload_n 2, 1) := by decide +kernel
theorem dX12_tires_88 : decode cX12_tires 88 = .ok (.ireturn, 1) := by decide +kernel
theorem dX12_inTheWay_0 : decode cX12_inTheWay 0 = .ok (.aload_n 0, 1) := by decide +kernel
theorem dX12_inTheWay_1 : decode cX12_inTheWay 1 = .ok (.iload_n 1, 1) := by decide +kernel
theorem dX12_inTheWay_2 : decode cX12_inTheWay 2 = .ok (.invokevirtual 312, 3) := by decide +kernel
theorem dX12_inTheWay_5 : decode cX12_inTheWay 5 = .ok (.istore_n 2, 1) := by decide +kernel
theorem dX12_inTheWay_6 : decode cX12_inTheWay 6 = .ok (.iload_n 2, 1) := by decide +kernel
theorem dX12_inTheWay_7 : decode cX12_inTheWay 7 = .ok (.ifCond .eq 5, 3) := by decide +kernel
theorem dX12_inTheWay_10 : decode cX12_inTheWay 10 = .ok (.iload_n 2, 1) := by decide +kernel
theorem dX12_inTheWay_11 : decode cX12_inTheWay 11 = .ok (.ireturn, 1) := by decide +kernel
theorem dX12_inTheWay_12 : decode cX12_inTheWay 12 = .ok (.aload_n 0, 1) := by decide +kernel
theorem dX12_inTheWay_13 : decode cX12_inTheWay 13 = .ok (.invokevirtual 315, 3) := by decide +kernel
theorem dX12_inTheWay_16 : decode cX12_inTheWay 16 = .ok (.aload_n 0, 1) := by decide +kernel
theorem dX12_inTheWay_17 : decode cX12_inTheWay 17 = .ok (.iload_n 1, 1) := by decide +kernel
theorem dX12_inTheWay_18 : decode cX12_inTheWay 18 = .ok (.invokevirtual 318, 3) := by decide +kernel
theorem dX12_inTheWay_21 : decode cX12_inTheWay 21 = .ok (.aload_n 0, 1) := by decide +kernel
theorem dX12_inTheWay_22 : decode cX12_inTheWay 22 = .ok (.invokevirtual 322, 3) := by decide +kernel
theorem dX12_inTheWay_25 : decode cX12_inTheWay 25 = .ok (.aload_n 0, 1) := by decide +kernel
theorem dX12_inTheWay_26 : decode cX12_inTheWay 26 = .ok (.getfield 297, 3) := by decide +kernel
theorem dX12_inTheWay_29 : decode cX12_inTheWay 29 = .ok (.ireturn, 1) := by decide +kernel
theorem dX12_goesOn_0 : decode cX12_goesOn 0 = .ok (.iload_n 2, 1) := by decide +kernel
theorem dX12_goesOn_1 : decode cX12_goesOn 1 = .ok (.aload_n 0, 1) := by decide +kernel
theorem dX12_goesOn_2 : decode cX12_goesOn 2 = .ok (.getfield 66, 3) := by decide +kernel
theorem dX12_goesOn_5 : decode cX12_goesOn 5 = .ok (.iload_n 1, 1) := by decide +kernel
theorem dX12_goesOn_6 : decode cX12_goesOn 6 = .ok (.iaload, 1) := by decide +kernel
theorem dX12_goesOn_7 : decode cX12_goesOn 7 = .ok (.if_icmp .ne 34, 3) := by decide +kernel
theorem dX12_goesOn_10 : decode cX12_goesOn 10 = .ok (.aload_n 0, 1) := by decide +kernel
theorem dX12_goesOn_11 : decode cX12_goesOn 11 = .ok (.dup, 1) := by decide +kernel
theorem dX12_goesOn_12 : decode cX12_goesOn 12 = .ok (.getfield 337, 3) := by decide +kernel
theorem dX12_goesOn_15 : decode cX12_goesOn 15 = .ok (.iconst 1, 1) := by decide +kernel
theorem dX12_goesOn_16 : decode cX12_goesOn 16 = .ok (.iadd, 1) := by decide +kernel
theorem dX12_goesOn_17 : decode cX12_goesOn 17 = .ok (.putfield 337, 3) := by decide +kernel
theorem dX12_goesOn_20 : decode cX12_goesOn 20 = .ok (.aload_n 0, 1) := by decide +kernel
theorem dX12_goesOn_21 : decode cX12_goesOn 21 = .ok (.aload_n 0, 1) := by decide +kernel
theorem dX12_goesOn_22 : decode cX12_goesOn 22 = .ok (.getfield 337, 3) := by decide +kernel
theorem dX12_goesOn_25 : decode cX12_goesOn 25 = .ok (.iconst 1, 1) := by decide +kernel
theorem dX12_goesOn_26 : decode cX12_goesOn 26 = .ok (.if_icmp .ne 7, 3) := by decide +kernel
theorem dX12_goesOn_29 : decode cX12_goesOn 29 = .ok (.iload_n 3, 1) := by decide +kernel
theorem dX12_goesOn_30 : decode cX12_goesOn 30 = .ok (.goto 7, 3) := by decide +kernel
theorem dX12_goesOn_33 : decode cX12_goesOn 33 = .ok (.aload_n 0, 1) := by decide +kernel
theorem dX12_goesOn_34 : decode cX12_goesOn 34 = .ok (.getfield 340, 3) := by decide +kernel
theorem dX12_goesOn_37 : decode cX12_goesOn 37 = .ok (.putfield 340, 3) := by decide +kernel
theorem dX12_goesOn_40 : decode cX12_goesOn 40 = .ok (.return_, 1) := by decide +kernel
theorem dX12_goesOn_41 : decode cX12_goesOn 41 = .ok (.iconst 0, 1) := by decide +kernel
theorem dX12_goesOn_42 : decode cX12_goesOn 42 = .ok (.istore 4, 2) := by decide +kernel
theorem dX12_goesOn_44 : decode cX12_goesOn 44 = .ok (.iload 4, 2) := by decide +kernel
theorem dX12_goesOn_46 : decode cX12_goesOn 46 = .ok (.aload_n 0, 1) := by decide +kernel
theorem dX12_goesOn_47 : decode cX12_goesOn 47 = .ok (.getfield 79, 3) := by decide +kernel
theorem dX12_goesOn_50 : decode cX12_goesOn 50 = .ok (.if_icmp .ge 90, 3) := by decide +kernel
theorem dX12_goesOn_53 : decode cX12_goesOn 53 = .ok (.aload_n 0, 1) := by decide +kernel
theorem dX12_goesOn_54 : decode cX12_goesOn 54 = .ok (.iload 4, 2) := by decide +kernel
theorem dX12_goesOn_56 : decode cX12_goesOn 56 = .ok (.aload_n 0, 1) := by decide +kernel
theorem dX12_goesOn_57 : decode cX12_goesOn 57 = .ok (.getfield 23, 3) := by decide +kernel
theorem dX12_goesOn_60 : decode cX12_goesOn 60 = .ok (.iload_n 2, 1) := by decide +kernel
theorem dX12_goesOn_61 : decode cX12_goesOn 61 = .ok (.iconst 2, 1) := by decide +kernel
theorem dX12_goesOn_62 : decode cX12_goesOn 62 = .ok (.irem, 1) := by decide +kernel
theorem dX12_goesOn_63 : decode cX12_goesOn 63 = .ok (.iaload, 1) := by decide +kernel
theorem dX12_goesOn_64 : decode cX12_goesOn 64 = .ok (.invokevirtual 252, 3) := by decide +kernel
theorem dX12_goesOn_67 : decode cX12_goesOn 67 = .ok (.aload_n 0, 1) := by decide +kernel
theorem dX12_goesOn_68 : decode cX12_goesOn 68 = .ok (.getfield 69, 3) := by decide +kernel
theorem dX12_goesOn_71 : decode cX12_goesOn 71 = .ok (.bipush 40, 2) := by decide +kernel
theorem dX12_goesOn_73 : decode cX12_goesOn 73 = .ok (.iload_n 1, 1) := by decide +kernel
theorem dX12_goesOn_74 : decode cX12_goesOn 74 = .ok (.imul, 1) := by decide +kernel
theorem dX12_goesOn_75 : decode cX12_goesOn 75 = .ok (.iload_n 2, 1) := by decide +kernel
theorem dX12_goesOn_76 : decode cX12_goesOn 76 = .ok (.iadd, 1) := by decide +kernel
theorem dX12_goesOn_77 : decode cX12_goesOn 77 = .ok (.iaload, 1) := by decide +kernel
theorem dX12_goesOn_78 : decode cX12_goesOn 78 = .ok (.if_icmp .ne 56, 3) := by decide +kernel
theorem dX12_goesOn_81 : decode cX12_goesOn 81 = .ok (.aload_n 0, 1) := by decide +kernel
theorem dX12_goesOn_82 : decode cX12_goesOn 82 = .ok (.invokevirtual 315, 3) := by decide +kernel
theorem dX12_goesOn_85 : decode cX12_goesOn 85 = .ok (.aload_n 0, 1) := by decide +kernel
theorem dX12_goesOn_86 : decode cX12_goesOn 86 = .ok (.iload_n 2, 1) := by decide +kernel
theorem dX12_goesOn_87 : decode cX12_goesOn 87 = .ok (.iconst 2, 1) := by decide +kernel
theorem dX12_goesOn_88 : decode cX12_goesOn 88 = .ok (.irem, 1) := by decide +kernel
theorem dX12_goesOn_89 : decode cX12_goesOn 89 = .ok (.iload 4, 2) := by decide +kernel
theorem dX12_goesOn_91 : decode cX12_goesOn 91 = .ok (.invokevirtual 302, 3) := by decide +kernel
theorem dX12_goesOn_94 : decode cX12_goesOn 94 = .ok (.istore 5, 2) := by decide +kernel
theorem dX12_goesOn_96 : decode cX12_goesOn 96 = .ok (.iload 5, 2) := by decide +kernel
theorem dX12_goesOn_98 : decode cX12_goesOn 98 = .ok (.ifCond .eq 15, 3) := by decide +kernel
theorem dX12_goesOn_101 : decode cX12_goesOn 101 = .ok (.iload_n 2, 1) := by decide +kernel
theorem dX12_goesOn_102 : decode cX12_goesOn 102 = .ok (.aload_n 0, 1) := by decide +kernel
theorem dX12_goesOn_103 : decode cX12_goesOn 103 = .ok (.getfield 66, 3) := by decide +kernel
theorem dX12_goesOn_106 : decode cX12_goesOn 106 = .ok (.iload_n 1, 1) := by decide +kernel
theorem dX12_goesOn_107 : decode cX12_goesOn 107 = .ok (.iaload, 1) := by decide +kernel
theorem dX12_goesOn_108 : decode cX12_goesOn 108 = .ok (.iconst 1, 1) := by decide +kernel
theorem dX12_goesOn_109 : decode cX12_goesOn 109 = .ok (.isub, 1) := by decide +kernel
theorem dX12_goesOn_110 : decode cX12_goesOn 110 = .ok (.if_icmp .ne 20, 3) := by decide +kernel
theorem dX12_goesOn_113 : decode cX12_goesOn 113 = .ok (.aload_n 0, 1) := by decide +kernel
theorem dX12_goesOn_114 : decode cX12_goesOn 114 = .ok (.iload_n 1, 1) := by decide +kernel
theorem dX12_goesOn_115 : decode cX12_goesOn 115 = .ok (.iload_n 2, 1) := by decide +kernel
theorem dX12_goesOn_116 : decode cX12_goesOn 116 = .ok (.iconst 1, 1) := by decide +kernel
theorem dX12_goesOn_117 : decode cX12_goesOn 117 = .ok (.iadd, 1) := by decide +kernel
theorem dX12_goesOn_118 : decode cX12_goesOn 118 = .ok (.bipush 10, 2) := by decide +kernel
theorem dX12_goesOn_120 : decode cX12_goesOn 120 = .ok (.iload_n 3, 1) := by decide +kernel
theorem dX12_goesOn_121 : decode cX12_goesOn 121 = .ok (.imul, 1) := by decide +kernel
theorem dX12_goesOn_122 : decode cX12_goesOn 122 = .ok (.iload 4, 2) := by decide +kernel
theorem dX12_goesOn_124 : decode cX12_goesOn 124 = .ok (.iadd, 1) := by decide +kernel
theorem dX12_goesOn_125 : decode cX12_goesOn 125 = .ok (.iconst 1, 1) := by decide +kernel
theorem dX12_goesOn_126 : decode cX12_goesOn 126 = .ok (.iadd, 1) := by decide +kernel
theorem dX12_goesOn_127 : decode cX12_goesOn 127 = .ok (.invokevirtual 343, 3) := by decide +kernel
theorem dX12_goesOn_130 : decode cX12_goesOn 130 = .ok (.aload_n 0, 1) := by decide +kernel
theorem dX12_goesOn_131 : decode cX12_goesOn 131 = .ok (.invokevirtual 322, 3) := by decide +kernel
theorem dX12_goesOn_134 : decode cX12_goesOn 134 = .ok (.iinc 4 1, 3) := by decide +kernel
theorem dX12_goesOn_137 : decode cX12_goesOn 137 = .ok (.goto (-93), 3) := by decide +kernel
theorem dX12_goesOn_140 : decode cX12_goesOn 140 = .ok (.return_, 1) := by decide +kernel
theorem dX12_balls_0 : decode cX12_balls 0 = .ok (.iload_n 1, 1) := by decide +kernel
theorem dX12_balls_1 : decode cX12_balls 1 = .ok (.invokestatic 309, 3) := by decide +kernel
theorem dX12_balls_4 : decode cX12_balls 4 = .ok (.ifCond .eq 13, 3) := by decide +kernel
theorem dX12_balls_7 : decode cX12_balls 7 = .ok (.iload_n 2, 1) := by decide +kernel
theorem dX12_balls_8 : decode cX12_balls 8 = .ok (.i2l, 1) := by decide +kernel
theorem dX12_balls_9 : decode cX12_balls 9 = .ok (.lconst 0, 1) := by decide +kernel
theorem dX12_balls_10 : decode cX12_balls 10 = .ok (.lconst 1, 1) := by decide +kernel
theorem dX12_balls_11 : decode cX12_balls 11 = .ok (.invokestatic 82, 3) := by decide +kernel
theorem dX12_balls_14 : decode cX12_balls 14 = .ok (.ifCond .ne 6, 3) := by decide +kernel
theorem dX12_balls_17 : decode cX12_balls 17 = .ok (.bipush (-2), 2) := by decide +kernel
theorem dX12_balls_19 : decode cX12_balls 19 = .ok (.ireturn, 1) := by decide +kernel
theorem dX12_balls_20 : decode cX12_balls 20 = .ok (.aload_n 0, 1) := by decide +kernel
theorem dX12_balls_21 : decode cX12_balls 21 = .ok (.getfield 59, 3) := by decide +kernel
theorem dX12_balls_24 : decode cX12_balls 24 = .ok (.iload_n 1, 1) := by decide +kernel
theorem dX12_balls_25 : decode cX12_balls 25 = .ok (.baload, 1) := by decide +kernel
theorem dX12_balls_26 : decode cX12_balls 26 = .ok (.ifCond .ne 6, 3) := by decide +kernel
theorem dX12_balls_29 : decode cX12_balls 29 = .ok (.bipush (-11), 2) := by decide +kernel
theorem dX12_balls_31 : decode cX12_balls 31 = .ok (.ireturn, 1) := by decide +kernel
theorem dX12_balls_32 : decode cX12_balls 32 = .ok (.aload_n 0, 1) := by decide +kernel
theorem dX12_balls_33 : decode cX12_balls 33 = .ok (.getfield 66, 3) := by decide +kernel
theorem dX12_balls_36 : decode cX12_balls 36 = .ok (.iload_n 1, 1) := by decide +kernel
theorem dX12_balls_37 : decode cX12_balls 37 = .ok (.iaload, 1) := by decide +kernel
theorem dX12_balls_38 : decode cX12_balls 38 = .ok (.iconst 4, 1) := by decide +kernel
theorem dX12_balls_39 : decode cX12_balls 39 = .ok (.if_icmp .le 6, 3) := by decide +kernel
theorem dX12_balls_42 : decode cX12_balls 42 = .ok (.bipush (-2), 2) := by decide +kernel
theorem dX12_balls_44 : decode cX12_balls 44 = .ok (.ireturn, 1) := by decide +kernel
theorem dX12_balls_45 : decode cX12_balls 45 = .ok (.aload_n 0, 1) := by decide +kernel
theorem dX12_balls_46 : decode cX12_balls 46 = .ok (.iconst 0, 1) := by decide +kernel
theorem dX12_balls_47 : decode cX12_balls 47 = .ok (.putfield 337, 3) := by decide +kernel
theorem dX12_balls_50 : decode cX12_balls 50 = .ok (.aload_n 0, 1) := by decide +kernel
theorem dX12_balls_51 : decode cX12_balls 51 = .ok (.iconst (-1), 1) := by decide +kernel
theorem dX12_balls_52 : decode cX12_balls 52 = .ok (.putfield 340, 3) := by decide +kernel
theorem dX12_balls_55 : decode cX12_balls 55 = .ok (.aload_n 0, 1) := by decide +kernel
theorem dX12_balls_56 : decode cX12_balls 56 = .ok (.iload_n 1, 1) := by decide +kernel
theorem dX12_balls_57 : decode cX12_balls 57 = .ok (.iconst 0, 1) := by decide +kernel
theorem dX12_balls_58 : decode cX12_balls 58 = .ok (.iconst 0, 1) := by decide +kernel
theorem dX12_balls_59 : decode cX12_balls 59 = .ok (.invokevirtual 343, 3) := by decide +kernel
theorem dX12_balls_62 : decode cX12_balls 62 = .ok (.iload_n 2, 1) := by decide +kernel
theorem dX12_balls_63 : decode cX12_balls 63 = .ok (.ifCond .ne 10, 3) := by decide +kernel
theorem dX12_balls_66 : decode cX12_balls 66 = .ok (.aload_n 0, 1) := by decide +kernel
theorem dX12_balls_67 : decode cX12_balls 67 = .ok (.getfield 337, 3) := by decide +kernel
theorem dX12_balls_70 : decode cX12_balls 70 = .ok (.goto 7, 3) := by decide +kernel
theorem dX12_balls_73 : decode cX12_balls 73 = .ok (.aload_n 0, 1) := by decide +kernel
theorem dX12_balls_74 : decode cX12_balls 74 = .ok (.getfield 340, 3) := by decide +kernel
theorem dX12_balls_77 : decode cX12_balls 77 = .ok (.ireturn, 1) := by decide +kernel
theorem dX12_winsSo_0 : decode cX12_winsSo 0 = .ok (.aload_n 0, 1) := by decide +kernel
theorem dX12_winsSo_1 : decode cX12_winsSo 1 = .ok (.invokevirtual 315, 3) := by decide +kernel
theorem dX12_winsSo_4 : decode cX12_winsSo 4 = .ok (.aload_n 0, 1) := by decide +kernel
theorem dX12_winsSo_5 : decode cX12_winsSo 5 = .ok (.iload_n 1, 1) := by decide +kernel
theorem dX12_winsSo_6 : decode cX12_winsSo 6 = .ok (.invokevirtual 318, 3) := by decide +kernel
theorem dX12_winsSo_9 : decode cX12_winsSo 9 = .ok (.aload_n 0, 1) := by decide +kernel
theorem dX12_winsSo_10 : decode cX12_winsSo 10 = .ok (.invokevirtual 322, 3) := by decide +kernel
theorem dX12_winsSo_13 : decode cX12_winsSo 13 = .ok (.aload_n 0, 1) := by decide +kernel
theorem dX12_winsSo_14 : decode cX12_winsSo 14 = .ok (.getfield 286, 3) := by decide +kernel
theorem dX12_winsSo_17 : decode cX12_winsSo 17 = .ok (.iload_n 2, 1) := by decide +kernel
theorem dX12_winsSo_18 : decode cX12_winsSo 18 = .ok (.if_icmp .ne 7, 3) := by decide +kernel
theorem dX12_winsSo_21 : decode cX12_winsSo 21 = .ok (.iconst 1, 1) := by decide +kernel
theorem dX12_winsSo_22 : decode cX12_winsSo 22 = .ok (.goto 4, 3) := by decide +kernel
theorem dX12_winsSo_25 : decode cX12_winsSo 25 = .ok (.iconst 0, 1) := by decide +kernel
theorem dX12_winsSo_26 : decode cX12_winsSo 26 = .ok (.ireturn, 1) := by decide +kernel
theorem dX12_quicks_0 : decode cX12_quicks 0 = .ok (.iload_n 1, 1) := by decide +kernel
theorem dX12_quicks_1 : decode cX12_quicks 1 = .ok (.invokestatic 309, 3) := by decide +kernel
theorem dX12_quicks_4 : decode cX12_quicks 4 = .ok (.ifCond .eq 27, 3) := by decide +kernel
theorem dX12_quicks_7 : decode cX12_quicks 7 = .ok (.iload_n 2, 1) := by decide +kernel
theorem dX12_quicks_8 : decode cX12_quicks 8 = .ok (.i2l, 1) := by decide +kernel
theorem dX12_quicks_9 : decode cX12_quicks 9 = .ok (.lconst 0, 1) := by decide +kernel
theorem dX12_quicks_10 : decode cX12_quicks 10 = .ok (.ldc2_w 347, 3) := by decide +kernel
theorem dX12_quicks_13 : decode cX12_quicks 13 = .ok (.invokestatic 82, 3) := by decide +kernel
theorem dX12_quicks_16 : decode cX12_quicks 16 = .ok (.ifCond .eq 15, 3) := by decide +kernel
theorem dX12_quicks_19 : decode cX12_quicks 19 = .ok (.iload_n 3, 1) := by decide +kernel
theorem dX12_quicks_20 : decode cX12_quicks 20 = .ok (.i2l, 1) := by decide +kernel
theorem dX12_quicks_21 : decode cX12_quicks 21 = .ok (.ldc2_w 101, 3) := by decide +kernel
theorem dX12_quicks_24 : decode cX12_quicks 24 = .ok (.lconst 1, 1) := by decide +kernel
theorem dX12_quicks_25 : decode cX12_quicks 25 = .ok (.invokestatic 82, 3) := by decide +kernel
theorem dX12_quicks_28 : decode cX12_quicks 28 = .ok (.ifCond .ne 6, 3) := by decide +kernel
theorem dX12_quicks_31 : decode cX12_quicks 31 = .ok (.bipush (-2), 2) := by decide +kernel
theorem dX12_quicks_33 : decode cX12_quicks 33 = .ok (.ireturn, 1) := by decide +kernel
theorem dX12_quicks_34 : decode cX12_quicks 34 = .ok (.aload_n 0, 1) := by decide +kernel
theorem dX12_quicks_35 : decode cX12_quicks 35 = .ok (.iload_n 1, 1) := by decide +kernel
theorem dX12_quicks_36 : decode cX12_quicks 36 = .ok (.invokevirtual 312, 3) := by decide +kernel
theorem dX12_quicks_39 : decode cX12_quicks 39 = .ok (.istore 4, 2) := by decide +kernel
theorem dX12_quicks_41 : decode cX12_quicks 41 = .ok (.iload 4, 2) := by decide +kernel
theorem dX12_quicks_43 : decode cX12_quicks 43 = .ok (.ifCond .eq 6, 3) := by decide +kernel
theorem dX12_quicks_46 : decode cX12_quicks 46 = .ok (.iload 4, 2) := by decide +kernel
theorem dX12_quicks_48 : decode cX12_quicks 48 = .ok (.ireturn, 1) := by decide +kernel
theorem dX12_quicks_49 : decode cX12_quicks 49 = .ok (.iload_n 2, 1) := by decide +kernel
theorem dX12_quicks_50 : decode cX12_quicks 50 = .ok (.iconst 2, 1) := by decide +kernel
theorem dX12_quicks_51 : decode cX12_quicks 51 = .ok (.if_icmp .ne 10, 3) := by decide +kernel
theorem dX12_quicks_54 : decode cX12_quicks 54 = .ok (.aload_n 0, 1) := by decide +kernel
theorem dX12_quicks_55 : decode cX12_quicks 55 = .ok (.getfield 239, 3) := by decide +kernel
theorem dX12_quicks_58 : decode cX12_quicks 58 = .ok (.goto 9, 3) := by decide +kernel
theorem dX12_quicks_61 : decode cX12_quicks 61 = .ok (.aload_n 0, 1) := by decide +kernel
theorem dX12_quicks_62 : decode cX12_quicks 62 = .ok (.getfield 29, 3) := by decide +kernel
theorem dX12_quicks_65 : decode cX12_quicks 65 = .ok (.iload_n 2, 1) := by decide +kernel
theorem dX12_quicks_66 : decode cX12_quicks 66 = .ok (.iaload, 1) := by decide +kernel
theorem dX12_quicks_67 : decode cX12_quicks 67 = .ok (.istore 5, 2) := by decide +kernel
theorem dX12_quicks_69 : decode cX12_quicks 69 = .ok (.iconst 0, 1) := by decide +kernel
theorem dX12_quicks_70 : decode cX12_quicks 70 = .ok (.istore 6, 2) := by decide +kernel
theorem dX12_quicks_72 : decode cX12_quicks 72 = .ok (.iconst 0, 1) := by decide +kernel
theorem dX12_quicks_73 : decode cX12_quicks 73 = .ok (.istore 7, 2) := by decide +kernel
theorem dX12_quicks_75 : decode cX12_quicks 75 = .ok (.iload 7, 2) := by decide +kernel
theorem dX12_quicks_77 : decode cX12_quicks 77 = .ok (.iload_n 2, 1) := by decide +kernel
theorem dX12_quicks_78 : decode cX12_quicks 78 = .ok (.iconst 2, 1) := by decide +kernel
theorem dX12_quicks_79 : decode cX12_quicks 79 = .ok (.if_icmp .ne 10, 3) := by decide +kernel
theorem dX12_quicks_82 : decode cX12_quicks 82 = .ok (.aload_n 0, 1) := by decide +kernel
theorem dX12_quicks_83 : decode cX12_quicks 83 = .ok (.getfield 76, 3) := by decide +kernel
theorem dX12_quicks_86 : decode cX12_quicks 86 = .ok (.goto 5, 3) := by decide +kernel
theorem dX12_quicks_89 : decode cX12_quicks 89 = .ok (.bipush 10, 2) := by decide +kernel
theorem dX12_quicks_91 : decode cX12_quicks 91 = .ok (.if_icmp .ge 38, 3) := by decide +kernel
theorem dX12_quicks_94 : decode cX12_quicks 94 = .ok (.aload_n 0, 1) := by decide +kernel
theorem dX12_quicks_95 : decode cX12_quicks 95 = .ok (.iload_n 2, 1) := by decide +kernel
theorem dX12_quicks_96 : decode cX12_quicks 96 = .ok (.iload 7, 2) := by decide +kernel
theorem dX12_quicks_98 : decode cX12_quicks 98 = .ok (.invokevirtual 349, 3) := by decide +kernel
theorem dX12_quicks_101 : decode cX12_quicks 101 = .ok (.iload 6, 2) := by decide +kernel
theorem dX12_quicks_103 : decode cX12_quicks 103 = .ok (.aload_n 0, 1) := by decide +kernel
theorem dX12_quicks_104 : decode cX12_quicks 104 = .ok (.iload_n 1, 1) := by decide +kernel
theorem dX12_quicks_105 : decode cX12_quicks 105 = .ok (.iload_n 3, 1) := by decide +kernel
theorem dX12_quicks_106 : decode cX12_quicks 106 = .ok (.invokevirtual 352, 3) := by decide +kernel
theorem dX12_quicks_109 : decode cX12_quicks 109 = .ok (.ifCond .eq 7, 3) := by decide +kernel
theorem dX12_quicks_112 : decode cX12_quicks 112 = .ok (.iconst 1, 1) := by decide +kernel
theorem dX12_quicks_113 : decode cX12_quicks 113 = .ok (.goto 4, 3) := by decide +kernel
theorem dX12_quicks_116 : decode cX12_quicks 116 = .ok (.iconst 0, 1) := by decide +kernel
theorem dX12_quicks_117 : decode cX12_quicks 117 = .ok (.iload 7, 2) := by decide +kernel
theorem dX12_quicks_119 : decode cX12_quicks 119 = .ok (.ishl, 1) := by decide +kernel
theorem dX12_quicks_120 : decode cX12_quicks 120 = .ok (.ior, 1) := by decide +kernel
theorem dX12_quicks_121 : decode cX12_quicks 121 = .ok (.istore 6, 2) := by decide +kernel
theorem dX12_quicks_123 : decode cX12_quicks 123 = .ok (.iinc 7 1, 3) := by decide +kernel
theorem dX12_quicks_126 : decode cX12_quicks 126 = .ok (.goto (-51), 3) := by decide +kernel
theorem dX12_quicks_129 : decode cX12_quicks 129 = .ok (.aload_n 0, 1) := by decide +kernel
theorem dX12_quicks_130 : decode cX12_quicks 130 = .ok (.iload_n 2, 1) := by decide +kernel
theorem dX12_quicks_131 : decode cX12_quicks 131 = .ok (.iload 5, 2) := by decide +kernel
theorem dX12_quicks_133 : decode cX12_quicks 133 = .ok (.invokevirtual 349, 3) := by decide +kernel
theorem dX12_quicks_136 : decode cX12_quicks 136 = .ok (.iload 6, 2) := by decide +kernel
theorem dX12_quicks_138 : decode cX12_quicks 138 = .ok (.ireturn, 1) := by decide +kernel
theorem dX12_tries_0 : decode cX12_tries 0 = .ok (.iload_n 1, 1) := by decide +kernel
theorem dX12_tries_1 : decode cX12_tries 1 = .ok (.iconst 2, 1) := by decide +kernel
theorem dX12_tries_2 : decode cX12_tries 2 = .ok (.if_icmp .ne 11, 3) := by decide +kernel
theorem dX12_tries_5 : decode cX12_tries 5 = .ok (.aload_n 0, 1) := by decide +kernel
theorem dX12_tries_6 : decode cX12_tries 6 = .ok (.iload_n 2, 1) := by decide +kernel
theorem dX12_tries_7 : decode cX12_tries 7 = .ok (.putfield 239, 3) := by decide +kernel
theorem dX12_tries_10 : decode cX12_tries 10 = .ok (.goto 10, 3) := by decide +kernel
theorem dX12_tries_13 : decode cX12_tries 13 = .ok (.aload_n 0, 1) := by decide +kernel
theorem dX12_tries_14 : decode cX12_tries 14 = .ok (.getfield 29, 3) := by decide +kernel
theorem dX12_tries_17 : decode cX12_tries 17 = .ok (.iload_n 1, 1) := by decide +kernel
theorem dX12_tries_18 : decode cX12_tries 18 = .ok (.iload_n 2, 1) := by decide +kernel
theorem dX12_tries_19 : decode cX12_tries 19 = .ok (.iastore, 1) := by decide +kernel
theorem dX12_tries_20 : decode cX12_tries 20 = .ok (.return_, 1) := by decide +kernel
theorem dX12_film_0 : decode cX12_film 0 = .ok (.iload_n 1, 1) := by decide +kernel
theorem dX12_film_1 : decode cX12_film 1 = .ok (.invokestatic 309, 3) := by decide +kernel
theorem dX12_film_4 : decode cX12_film 4 = .ok (.ifCond .eq 10, 3) := by decide +kernel
theorem dX12_film_7 : decode cX12_film 7 = .ok (.iload_n 2, 1) := by decide +kernel
theorem dX12_film_8 : decode cX12_film 8 = .ok (.invokestatic 309, 3) := by decide +kernel
theorem dX12_film_11 : decode cX12_film 11 = .ok (.ifCond .ne 6, 3) := by decide +kernel
theorem dX12_film_14 : decode cX12_film 14 = .ok (.bipush (-2), 2) := by decide +kernel
theorem dX12_film_16 : decode cX12_film 16 = .ok (.ireturn, 1) := by decide +kernel
theorem dX12_film_17 : decode cX12_film 17 = .ok (.aload_n 0, 1) := by decide +kernel
theorem dX12_film_18 : decode cX12_film 18 = .ok (.iload_n 2, 1) := by decide +kernel
theorem dX12_film_19 : decode cX12_film 19 = .ok (.invokevirtual 312, 3) := by decide +kernel
theorem dX12_film_22 : decode cX12_film 22 = .ok (.istore_n 3, 1) := by decide +kernel
theorem dX12_film_23 : decode cX12_film 23 = .ok (.iload_n 3, 1) := by decide +kernel
theorem dX12_film_24 : decode cX12_film 24 = .ok (.ifCond .eq 5, 3) := by decide +kernel
theorem dX12_film_27 : decode cX12_film 27 = .ok (.iload_n 3, 1) := by decide +kernel
theorem dX12_film_28 : decode cX12_film 28 = .ok (.ireturn, 1) := by decide +kernel
theorem dX12_film_29 : decode cX12_film 29 = .ok (.aload_n 0, 1) := by decide +kernel
theorem dX12_film_30 : decode cX12_film 30 = .ok (.invokevirtual 315, 3) := by decide +kernel
theorem dX12_film_33 : decode cX12_film 33 = .ok (.aload_n 0, 1) := by decide +kernel
theorem dX12_film_34 : decode cX12_film 34 = .ok (.iload_n 2, 1) := by decide +kernel
theorem dX12_film_35 : decode cX12_film 35 = .ok (.invokevirtual 318, 3) := by decide +kernel
theorem dX12_film_38 : decode cX12_film 38 = .ok (.aload_n 0, 1) := by decide +kernel
theorem dX12_film_39 : decode cX12_film 39 = .ok (.invokevirtual 322, 3) := by decide +kernel
theorem dX12_film_42 : decode cX12_film 42 = .ok (.aload_n 0, 1) := by decide +kernel
theorem dX12_film_43 : decode cX12_film 43 = .ok (.iload_n 1, 1) := by decide +kernel
theorem dX12_film_44 : decode cX12_film 44 = .ok (.iconst 0, 1) := by decide +kernel
theorem dX12_film_45 : decode cX12_film 45 = .ok (.aload_n 0, 1) := by decide +kernel
theorem dX12_film_46 : decode cX12_film 46 = .ok (.getfield 289, 3) := by decide +kernel
theorem dX12_film_49 : decode cX12_film 49 = .ok (.invokevirtual 355, 3) := by decide +kernel
theorem dX12_film_52 : decode cX12_film 52 = .ok (.pop, 1) := by decide +kernel
theorem dX12_film_53 : decode cX12_film 53 = .ok (.iconst 0, 1) := by decide +kernel
theorem dX12_film_54 : decode cX12_film 54 = .ok (.istore 4, 2) := by decide +kernel
theorem dX12_film_56 : decode cX12_film 56 = .ok (.iload 4, 2) := by decide +kernel
theorem dX12_film_58 : decode cX12_film 58 = .ok (.aload_n 0, 1) := by decide +kernel
theorem dX12_film_59 : decode cX12_film 59 = .ok (.getfield 289, 3) := by decide +kernel
theorem dX12_film_62 : decode cX12_film 62 = .ok (.if_icmp .ge 28, 3) := by decide +kernel
theorem dX12_film_65 : decode cX12_film 65 = .ok (.aload_n 0, 1) := by decide +kernel
theorem dX12_film_66 : decode cX12_film 66 = .ok (.getfield 69, 3) := by decide +kernel
theorem dX12_film_69 : decode cX12_film 69 = .ok (.bipush 40, 2) := by decide +kernel
theorem dX12_film_71 : decode cX12_film 71 = .ok (.iload_n 1, 1) := by decide +kernel
theorem dX12_film_72 : decode cX12_film 72 = .ok (.imul, 1) := by decide +kernel
theorem dX12_film_73 : decode cX12_film 73 = .ok (.iload 4, 2) := by decide +kernel
theorem dX12_film_75 : decode cX12_film 75 = .ok (.iadd, 1) := by decide +kernel
theorem dX12_film_76 : decode cX12_film 76 = .ok (.aload_n 0, 1) := by decide +kernel
theorem dX12_film_77 : decode cX12_film 77 = .ok (.getfield 47, 3) := by decide +kernel
theorem dX12_film_80 : decode cX12_film 80 = .ok (.iload 4, 2) := by decide +kernel
theorem dX12_film_82 : decode cX12_film 82 = .ok (.iaload, 1) := by decide +kernel
theorem dX12_film_83 : decode cX12_film 83 = .ok (.iastore, 1) := by decide +kernel
theorem dX12_film_84 : decode cX12_film 84 = .ok (.iinc 4 1, 3) := by decide +kernel
theorem dX12_film_87 : decode cX12_film 87 = .ok (.goto (-31), 3) := by decide +kernel
theorem dX12_film_90 : decode cX12_film 90 = .ok (.aload_n 0, 1) := by decide +kernel
theorem dX12_film_91 : decode cX12_film 91 = .ok (.getfield 289, 3) := by decide +kernel
theorem dX12_film_94 : decode cX12_film 94 = .ok (.ireturn, 1) := by decide +kernel
theorem dX12_draws_0 : decode cX12_draws 0 = .ok (.aload_n 0, 1) := by decide +kernel
theorem dX12_draws_1 : decode cX12_draws 1 = .ok (.invokevirtual 315, 3) := by decide +kernel
theorem dX12_draws_4 : decode cX12_draws 4 = .ok (.iload_n 1, 1) := by decide +kernel
theorem dX12_draws_5 : decode cX12_draws 5 = .ok (.istore_n 2, 1) := by decide +kernel
theorem dX12_draws_6 : decode cX12_draws 6 = .ok (.iconst (-1), 1) := by decide +kernel
theorem dX12_draws_7 : decode cX12_draws 7 = .ok (.istore_n 3, 1) := by decide +kernel
theorem dX12_draws_8 : decode cX12_draws 8 = .ok (.iconst 0, 1) := by decide +kernel
theorem dX12_draws_9 : decode cX12_draws 9 = .ok (.istore 4, 2) := by decide +kernel
theorem dX12_draws_11 : decode cX12_draws 11 = .ok (.iload 4, 2) := by decide +kernel
theorem dX12_draws_13 : decode cX12_draws 13 = .ok (.bipush 40, 2) := by decide +kernel
theorem dX12_draws_15 : decode cX12_draws 15 = .ok (.if_icmp .ge 60, 3) := by decide +kernel
theorem dX12_draws_18 : decode cX12_draws 18 = .ok (.iload_n 3, 1) := by decide +kernel
theorem dX12_draws_19 : decode cX12_draws 19 = .ok (.iconst (-1), 1) := by decide +kernel
theorem dX12_draws_20 : decode cX12_draws 20 = .ok (.if_icmp .ne 55, 3) := by decide +kernel
theorem dX12_draws_23 : decode cX12_draws 23 = .ok (.aload_n 0, 1) := by decide +kernel
theorem dX12_draws_24 : decode cX12_draws 24 = .ok (.getfield 79, 3) := by decide +kernel
theorem dX12_draws_27 : decode cX12_draws 27 = .ok (.ifCond .le 48, 3) := by decide +kernel
theorem dX12_draws_30 : decode cX12_draws 30 = .ok (.iload_n 2, 1) := by decide +kernel
theorem dX12_draws_31 : decode cX12_draws 31 = .ok (.ldc_w 358, 3) := by decide +kernel
theorem dX12_draws_34 : decode cX12_draws 34 = .ok (.imul, 1) := by decide +kernel
theorem dX12_draws_35 : decode cX12_draws 35 = .ok (.sipush 12345, 3) := by decide +kernel
theorem dX12_draws_38 : decode cX12_draws 38 = .ok (.iadd, 1) := by decide +kernel
theorem dX12_draws_39 : decode cX12_draws 39 = .ok (.istore_n 2, 1) := by decide +kernel
theorem dX12_draws_40 : decode cX12_draws 40 = .ok (.aload_n 0, 1) := by decide +kernel
theorem dX12_draws_41 : decode cX12_draws 41 = .ok (.iload 4, 2) := by decide +kernel
theorem dX12_draws_43 : decode cX12_draws 43 = .ok (.iconst 2, 1) := by decide +kernel
theorem dX12_draws_44 : decode cX12_draws 44 = .ok (.irem, 1) := by decide +kernel
theorem dX12_draws_45 : decode cX12_draws 45 = .ok (.iload_n 2, 1) := by decide +kernel
theorem dX12_draws_46 : decode cX12_draws 46 = .ok (.bipush 9, 2) := by decide +kernel
theorem dX12_draws_48 : decode cX12_draws 48 = .ok (.iushr, 1) := by decide +kernel
theorem dX12_draws_49 : decode cX12_draws 49 = .ok (.aload_n 0, 1) := by decide +kernel
theorem dX12_draws_50 : decode cX12_draws 50 = .ok (.getfield 79, 3) := by decide +kernel
theorem dX12_draws_53 : decode cX12_draws 53 = .ok (.irem, 1) := by decide +kernel
theorem dX12_draws_54 : decode cX12_draws 54 = .ok (.invokevirtual 302, 3) := by decide +kernel
theorem dX12_draws_57 : decode cX12_draws 57 = .ok (.ifCond .eq 10, 3) := by decide +kernel
theorem dX12_draws_60 : decode cX12_draws 60 = .ok (.iload 4, 2) := by decide +kernel
theorem dX12_draws_62 : decode cX12_draws 62 = .ok (.iconst 2, 1) := by decide +kernel
theorem dX12_draws_63 : decode cX12_draws 63 = .ok (.irem, 1) := by decide +kernel
theorem dX12_draws_64 : decode cX12_draws 64 = .ok (.goto 4, 3) := by decide +kernel
theorem dX12_draws_67 : decode cX12_draws 67 = .ok (.iconst (-1), 1) := by decide +kernel
theorem dX12_draws_68 : decode cX12_draws 68 = .ok (.istore_n 3, 1) := by decide +kernel
theorem dX12_draws_69 : decode cX12_draws 69 = .ok (.iinc 4 1, 3) := by decide +kernel
theorem dX12_draws_72 : decode cX12_draws 72 = .ok (.goto (-61), 3) := by decide +kernel
theorem dX12_draws_75 : decode cX12_draws 75 = .ok (.aload_n 0, 1) := by decide +kernel
theorem dX12_draws_76 : decode cX12_draws 76 = .ok (.invokevirtual 322, 3) := by decide +kernel
theorem dX12_draws_79 : decode cX12_draws 79 = .ok (.iload_n 3, 1) := by decide +kernel
theorem dX12_draws_80 : decode cX12_draws 80 = .ok (.ireturn, 1) := by decide +kernel
theorem dX12_drawn_0 : decode cX12_drawn 0 = .ok (.aload_n 0, 1) := by decide +kernel
theorem dX12_drawn_1 : decode cX12_drawn 1 = .ok (.iload_n 1, 1) := by decide +kernel
theorem dX12_drawn_2 : decode cX12_drawn 2 = .ok (.invokevirtual 359, 3) := by decide +kernel
theorem dX12_drawn_5 : decode cX12_drawn 5 = .ok (.ireturn, 1) := by decide +kernel
theorem dX12_chance_0 : decode cX12_chance 0 = .ok (.iload_n 2, 1) := by decide +kernel
theorem dX12_chance_1 : decode cX12_chance 1 = .ok (.i2l, 1) := by decide +kernel
theorem dX12_chance_2 : decode cX12_chance 2 = .ok (.lconst 1, 1) := by decide +kernel
theorem dX12_chance_3 : decode cX12_chance 3 = .ok (.ldc2_w 362, 3) := by decide +kernel
theorem dX12_chance_6 : decode cX12_chance 6 = .ok (.invokestatic 82, 3) := by decide +kernel
theorem dX12_chance_9 : decode cX12_chance 9 = .ok (.ifCond .eq 13, 3) := by decide +kernel
theorem dX12_chance_12 : decode cX12_chance 12 = .ok (.iload_n 3, 1) := by decide +kernel
theorem dX12_chance_13 : decode cX12_chance 13 = .ok (.i2l, 1) := by decide +kernel
theorem dX12_chance_14 : decode cX12_chance 14 = .ok (.lconst 0, 1) := by decide +kernel
theorem dX12_chance_15 : decode cX12_chance 15 = .ok (.lconst 1, 1) := by decide +kernel
theorem dX12_chance_16 : decode cX12_chance 16 = .ok (.invokestatic 82, 3) := by decide +kernel
theorem dX12_chance_19 : decode cX12_chance 19 = .ok (.ifCond .ne 7, 3) := by decide +kernel
theorem dX12_chance_22 : decode cX12_chance 22 = .ok (.ldc2_w 325, 3) := by decide +kernel
theorem dX12_chance_25 : decode cX12_chance 25 = .ok (.lreturn, 1) := by decide +kernel
theorem dX12_chance_26 : decode cX12_chance 26 = .ok (.lconst 0, 1) := by decide +kernel
theorem dX12_chance_27 : decode cX12_chance 27 = .ok (.lstore 4, 2) := by decide +kernel
theorem dX12_chance_29 : decode cX12_chance 29 = .ok (.iconst 0, 1) := by decide +kernel
theorem dX12_chance_30 : decode cX12_chance 30 = .ok (.istore 6, 2) := by decide +kernel
theorem dX12_chance_32 : decode cX12_chance 32 = .ok (.iload 6, 2) := by decide +kernel
theorem dX12_chance_34 : decode cX12_chance 34 = .ok (.iload_n 2, 1) := by decide +kernel
theorem dX12_chance_35 : decode cX12_chance 35 = .ok (.if_icmp .ge 30, 3) := by decide +kernel
theorem dX12_chance_38 : decode cX12_chance 38 = .ok (.lload 4, 2) := by decide +kernel
theorem dX12_chance_40 : decode cX12_chance 40 = .ok (.aload_n 0, 1) := by decide +kernel
theorem dX12_chance_41 : decode cX12_chance 41 = .ok (.iload_n 1, 1) := by decide +kernel
theorem dX12_chance_42 : decode cX12_chance 42 = .ok (.iload 6, 2) := by decide +kernel
theorem dX12_chance_44 : decode cX12_chance 44 = .ok (.iadd, 1) := by decide +kernel
theorem dX12_chance_45 : decode cX12_chance 45 = .ok (.invokevirtual 359, 3) := by decide +kernel
theorem dX12_chance_48 : decode cX12_chance 48 = .ok (.ifCond .ne 7, 3) := by decide +kernel
theorem dX12_chance_51 : decode cX12_chance 51 = .ok (.lconst 1, 1) := by decide +kernel
theorem dX12_chance_52 : decode cX12_chance 52 = .ok (.goto 4, 3) := by decide +kernel
theorem dX12_chance_55 : decode cX12_chance 55 = .ok (.lconst 0, 1) := by decide +kernel
theorem dX12_chance_56 : decode cX12_chance 56 = .ok (.ladd, 1) := by decide +kernel
theorem dX12_chance_57 : decode cX12_chance 57 = .ok (.lstore 4, 2) := by decide +kernel
theorem dX12_chance_59 : decode cX12_chance 59 = .ok (.iinc 6 1, 3) := by decide +kernel
theorem dX12_chance_62 : decode cX12_chance 62 = .ok (.goto (-30), 3) := by decide +kernel
theorem dX12_chance_65 : decode cX12_chance 65 = .ok (.lload 4, 2) := by decide +kernel
theorem dX12_chance_67 : decode cX12_chance 67 = .ok (.lstore 6, 2) := by decide +kernel
theorem dX12_chance_69 : decode cX12_chance 69 = .ok (.iload_n 2, 1) := by decide +kernel
theorem dX12_chance_70 : decode cX12_chance 70 = .ok (.i2l, 1) := by decide +kernel
theorem dX12_chance_71 : decode cX12_chance 71 = .ok (.lstore 8, 2) := by decide +kernel
theorem dX12_chance_73 : decode cX12_chance 73 = .ok (.lload 8, 2) := by decide +kernel
theorem dX12_chance_75 : decode cX12_chance 75 = .ok (.lconst 0, 1) := by decide +kernel
theorem dX12_chance_76 : decode cX12_chance 76 = .ok (.lcmp, 1) := by decide +kernel
theorem dX12_chance_77 : decode cX12_chance 77 = .ok (.ifCond .eq 21, 3) := by decide +kernel
theorem dX12_chance_80 : decode cX12_chance 80 = .ok (.lload 6, 2) := by decide +kernel
theorem dX12_chance_82 : decode cX12_chance 82 = .ok (.lload 8, 2) := by decide +kernel
theorem dX12_chance_84 : decode cX12_chance 84 = .ok (.lrem, 1) := by decide +kernel
theorem dX12_chance_85 : decode cX12_chance 85 = .ok (.lstore 10, 2) := by decide +kernel
theorem dX12_chance_87 : decode cX12_chance 87 = .ok (.lload 8, 2) := by decide +kernel
theorem dX12_chance_89 : decode cX12_chance 89 = .ok (.lstore 6, 2) := by decide +kernel
theorem dX12_chance_91 : decode cX12_chance 91 = .ok (.lload 10, 2) := by decide +kernel
theorem dX12_chance_93 : decode cX12_chance 93 = .ok (.lstore 8, 2) := by decide +kernel
theorem dX12_chance_95 : decode cX12_chance 95 = .ok (.goto (-22), 3) := by decide +kernel
theorem dX12_chance_98 : decode cX12_chance 98 = .ok (.iload_n 3, 1) := by decide +kernel
theorem dX12_chance_99 : decode cX12_chance 99 = .ok (.ifCond .ne 11, 3) := by decide +kernel
theorem dX12_chance_102 : decode cX12_chance 102 = .ok (.lload 4, 2) := by decide +kernel
theorem dX12_chance_104 : decode cX12_chance 104 = .ok (.lload 6, 2) := by decide +kernel
theorem dX12_chance_106 : decode cX12_chance 106 = .ok (.ldiv, 1) := by decide +kernel
theorem dX12_chance_107 : decode cX12_chance 107 = .ok (.goto 8, 3) := by decide +kernel
theorem dX12_chance_110 : decode cX12_chance 110 = .ok (.iload_n 2, 1) := by decide +kernel
theorem dX12_chance_111 : decode cX12_chance 111 = .ok (.i2l, 1) := by decide +kernel
theorem dX12_chance_112 : decode cX12_chance 112 = .ok (.lload 6, 2) := by decide +kernel
theorem dX12_chance_114 : decode cX12_chance 114 = .ok (.ldiv, 1) := by decide +kernel
theorem dX12_chance_115 : decode cX12_chance 115 = .ok (.lreturn, 1) := by decide +kernel
theorem dX12_image_0 : decode cX12_image 0 = .ok (.iconst 0, 1) := by decide +kernel
theorem dX12_image_1 : decode cX12_image 1 = .ok (.istore_n 1, 1) := by decide +kernel
theorem dX12_image_2 : decode cX12_image 2 = .ok (.iload_n 1, 1) := by decide +kernel
theorem dX12_image_3 : decode cX12_image 3 = .ok (.iconst 2, 1) := by decide +kernel
theorem dX12_image_4 : decode cX12_image 4 = .ok (.if_icmp .ge 64, 3) := by decide +kernel
theorem dX12_image_7 : decode cX12_image 7 = .ok (.aload_n 0, 1) := by decide +kernel
theorem dX12_image_8 : decode cX12_image 8 = .ok (.getfield 50, 3) := by decide +kernel
theorem dX12_image_11 : decode cX12_image 11 = .ok (.iload_n 1, 1) := by decide +kernel
theorem dX12_image_12 : decode cX12_image 12 = .ok (.aload_n 0, 1) := by decide +kernel
theorem dX12_image_13 : decode cX12_image 13 = .ok (.getfield 23, 3) := by decide +kernel
theorem dX12_image_16 : decode cX12_image 16 = .ok (.iload_n 1, 1) := by decide +kernel
theorem dX12_image_17 : decode cX12_image 17 = .ok (.iaload, 1) := by decide +kernel
theorem dX12_image_18 : decode cX12_image 18 = .ok (.iastore, 1) := by decide +kernel
theorem dX12_image_19 : decode cX12_image 19 = .ok (.aload_n 0, 1) := by decide +kernel
theorem dX12_image_20 : decode cX12_image 20 = .ok (.getfield 50, 3) := by decide +kernel
theorem dX12_image_23 : decode cX12_image 23 = .ok (.iconst 2, 1) := by decide +kernel
theorem dX12_image_24 : decode cX12_image 24 = .ok (.iload_n 1, 1) := by decide +kernel
theorem dX12_image_25 : decode cX12_image 25 = .ok (.iadd, 1) := by decide +kernel
theorem dX12_image_26 : decode cX12_image 26 = .ok (.aload_n 0, 1) := by decide +kernel
theorem dX12_image_27 : decode cX12_image 27 = .ok (.getfield 26, 3) := by decide +kernel
theorem dX12_image_30 : decode cX12_image 30 = .ok (.iload_n 1, 1) := by decide +kernel
theorem dX12_image_31 : decode cX12_image 31 = .ok (.iaload, 1) := by decide +kernel
theorem dX12_image_32 : decode cX12_image 32 = .ok (.iastore, 1) := by decide +kernel
theorem dX12_image_33 : decode cX12_image 33 = .ok (.aload_n 0, 1) := by decide +kernel
theorem dX12_image_34 : decode cX12_image 34 = .ok (.getfield 50, 3) := by decide +kernel
theorem dX12_image_37 : decode cX12_image 37 = .ok (.iconst 4, 1) := by decide +kernel
theorem dX12_image_38 : decode cX12_image 38 = .ok (.iload_n 1, 1) := by decide +kernel
theorem dX12_image_39 : decode cX12_image 39 = .ok (.iadd, 1) := by decide +kernel
theorem dX12_image_40 : decode cX12_image 40 = .ok (.aload_n 0, 1) := by decide +kernel
theorem dX12_image_41 : decode cX12_image 41 = .ok (.getfield 29, 3) := by decide +kernel
theorem dX12_image_44 : decode cX12_image 44 = .ok (.iload_n 1, 1) := by decide +kernel
theorem dX12_image_45 : decode cX12_image 45 = .ok (.iaload, 1) := by decide +kernel
theorem dX12_image_46 : decode cX12_image 46 = .ok (.iastore, 1) := by decide +kernel
theorem dX12_image_47 : decode cX12_image 47 = .ok (.aload_n 0, 1) := by decide +kernel
theorem dX12_image_48 : decode cX12_image 48 = .ok (.getfield 50, 3) := by decide +kernel
theorem dX12_image_51 : decode cX12_image 51 = .ok (.bipush 6, 2) := by decide +kernel
theorem dX12_image_53 : decode cX12_image 53 = .ok (.iload_n 1, 1) := by decide +kernel
theorem dX12_image_54 : decode cX12_image 54 = .ok (.iadd, 1) := by decide +kernel
theorem dX12_image_55 : decode cX12_image 55 = .ok (.aload_n 0, 1) := by decide +kernel
theorem dX12_image_56 : decode cX12_image 56 = .ok (.getfield 32, 3) := by decide +kernel
theorem dX12_image_59 : decode cX12_image 59 = .ok (.iload_n 1, 1) := by decide +kernel
theorem dX12_image_60 : decode cX12_image 60 = .ok (.iaload, 1) := by decide +kernel
theorem dX12_image_61 : decode cX12_image 61 = .ok (.iastore, 1) := by decide +kernel
theorem dX12_image_62 : decode cX12_image 62 = .ok (.iinc 1 1, 3) := by decide +kernel
theorem dX12_image_65 : decode cX12_image 65 = .ok (.goto (-63), 3) := by decide +kernel
theorem dX12_image_68 : decode cX12_image 68 = .ok (.iconst 0, 1) := by decide +kernel
theorem dX12_image_69 : decode cX12_image 69 = .ok (.istore_n 1, 1) := by decide +kernel
theorem dX12_image_70 : decode cX12_image 70 = .ok (.iload_n 1, 1) := by decide +kernel
theorem dX12_image_71 : decode cX12_image 71 = .ok (.bipush 6, 2) := by decide +kernel
theorem dX12_image_73 : decode cX12_image 73 = .ok (.if_icmp .ge 36, 3) := by decide +kernel
theorem dX12_image_76 : decode cX12_image 76 = .ok (.aload_n 0, 1) := by decide +kernel
theorem dX12_image_77 : decode cX12_image 77 = .ok (.getfield 53, 3) := by decide +kernel
theorem dX12_image_80 : decode cX12_image 80 = .ok (.iload_n 1, 1) := by decide +kernel
theorem dX12_image_81 : decode cX12_image 81 = .ok (.aload_n 0, 1) := by decide +kernel
theorem dX12_image_82 : decode cX12_image 82 = .ok (.getfield 38, 3) := by decide +kernel
theorem dX12_image_85 : decode cX12_image 85 = .ok (.iload_n 1, 1) := by decide +kernel
theorem dX12_image_86 : decode cX12_image 86 = .ok (.iaload, 1) := by decide +kernel
theorem dX12_image_87 : decode cX12_image 87 = .ok (.iastore, 1) := by decide +kernel
theorem dX12_image_88 : decode cX12_image 88 = .ok (.aload_n 0, 1) := by decide +kernel
theorem dX12_image_89 : decode cX12_image 89 = .ok (.getfield 53, 3) := by decide +kernel
theorem dX12_image_92 : decode cX12_image 92 = .ok (.bipush 6, 2) := by decide +kernel
theorem dX12_image_94 : decode cX12_image 94 = .ok (.iload_n 1, 1) := by decide +kernel
theorem dX12_image_95 : decode cX12_image 95 = .ok (.iadd, 1) := by decide +kernel
theorem dX12_image_96 : decode cX12_image 96 = .ok (.aload_n 0, 1) := by decide +kernel
theorem dX12_image_97 : decode cX12_image 97 = .ok (.getfield 41, 3) := by decide +kernel
theorem dX12_image_100 : decode cX12_image 100 = .ok (.iload_n 1, 1) := by decide +kernel
theorem dX12_image_101 : decode cX12_image 101 = .ok (.iaload, 1) := by decide +kernel
theorem dX12_image_102 : decode cX12_image 102 = .ok (.iastore, 1) := by decide +kernel
theorem dX12_image_103 : decode cX12_image 103 = .ok (.iinc 1 1, 3) := by decide +kernel
theorem dX12_image_106 : decode cX12_image 106 = .ok (.goto (-36), 3) := by decide +kernel
theorem dX12_image_109 : decode cX12_image 109 = .ok (.aload_n 0, 1) := by decide +kernel
theorem dX12_image_110 : decode cX12_image 110 = .ok (.aload_n 0, 1) := by decide +kernel
theorem dX12_image_111 : decode cX12_image 111 = .ok (.getfield 79, 3) := by decide +kernel
theorem dX12_image_114 : decode cX12_image 114 = .ok (.putfield 56, 3) := by decide +kernel
theorem dX12_image_117 : decode cX12_image 117 = .ok (.aload_n 0, 1) := by decide +kernel
theorem dX12_image_118 : decode cX12_image 118 = .ok (.aload_n 0, 1) := by decide +kernel
theorem dX12_image_119 : decode cX12_image 119 = .ok (.getfield 109, 3) := by decide +kernel
theorem dX12_image_122 : decode cX12_image 122 = .ok (.putfield 364, 3) := by decide +kernel
theorem dX12_image_125 : decode cX12_image 125 = .ok (.aload_n 0, 1) := by decide +kernel
theorem dX12_image_126 : decode cX12_image 126 = .ok (.aload_n 0, 1) := by decide +kernel
theorem dX12_image_127 : decode cX12_image 127 = .ok (.getfield 239, 3) := by decide +kernel
theorem dX12_image_130 : decode cX12_image 130 = .ok (.putfield 367, 3) := by decide +kernel
theorem dX12_image_133 : decode cX12_image 133 = .ok (.aload_n 0, 1) := by decide +kernel
theorem dX12_image_134 : decode cX12_image 134 = .ok (.getfield 79, 3) := by decide +kernel
theorem dX12_image_137 : decode cX12_image 137 = .ok (.ireturn, 1) := by decide +kernel
theorem dX12_back_0 : decode cX12_back 0 = .ok (.aload_n 0, 1) := by decide +kernel
theorem dX12_back_1 : decode cX12_back 1 = .ok (.getfield 56, 3) := by decide +kernel
theorem dX12_back_4 : decode cX12_back 4 = .ok (.iconst (-1), 1) := by decide +kernel
theorem dX12_back_5 : decode cX12_back 5 = .ok (.if_icmp .ne 6, 3) := by decide +kernel
theorem dX12_back_8 : decode cX12_back 8 = .ok (.bipush (-3), 2) := by decide +kernel
theorem dX12_back_10 : decode cX12_back 10 = .ok (.ireturn, 1) := by decide +kernel
theorem dX12_back_11 : decode cX12_back 11 = .ok (.iconst 0, 1) := by decide +kernel
theorem dX12_back_12 : decode cX12_back 12 = .ok (.istore_n 1, 1) := by decide +kernel
theorem dX12_back_13 : decode cX12_back 13 = .ok (.iload_n 1, 1) := by decide +kernel
theorem dX12_back_14 : decode cX12_back 14 = .ok (.iconst 2, 1) := by decide +kernel
theorem dX12_back_15 : decode cX12_back 15 = .ok (.if_icmp .ge 64, 3) := by decide +kernel
theorem dX12_back_18 : decode cX12_back 18 = .ok (.aload_n 0, 1) := by decide +kernel
theorem dX12_back_19 : decode cX12_back 19 = .ok (.getfield 23, 3) := by decide +kernel
theorem dX12_back_22 : decode cX12_back 22 = .ok (.iload_n 1, 1) := by decide +kernel
theorem dX12_back_23 : decode cX12_back 23 = .ok (.aload_n 0, 1) := by decide +kernel
theorem dX12_back_24 : decode cX12_back 24 = .ok (.getfield 50, 3) := by decide +kernel
theorem dX12_back_27 : decode cX12_back 27 = .ok (.iload_n 1, 1) := by decide +kernel
theorem dX12_back_28 : decode cX12_back 28 = .ok (.iaload, 1) := by decide +kernel
theorem dX12_back_29 : decode cX12_back 29 = .ok (.iastore, 1) := by decide +kernel
theorem dX12_back_30 : decode cX12_back 30 = .ok (.aload_n 0, 1) := by decide +kernel
theorem dX12_back_31 : decode cX12_back 31 = .ok (.getfield 26, 3) := by decide +kernel
theorem dX12_back_34 : decode cX12_back 34 = .ok (.iload_n 1, 1) := by decide +kernel
theorem dX12_back_35 : decode cX12_back 35 = .ok (.aload_n 0, 1) := by decide +kernel
theorem dX12_back_36 : decode cX12_back 36 = .ok (.getfield 50, 3) := by decide +kernel
theorem dX12_back_39 : decode cX12_back 39 = .ok (.iconst 2, 1) := by decide +kernel
theorem dX12_back_40 : decode cX12_back 40 = .ok (.iload_n 1, 1) := by decide +kernel
theorem dX12_back_41 : decode cX12_back 41 = .ok (.iadd, 1) := by decide +kernel
theorem dX12_back_42 : decode cX12_back 42 = .ok (.iaload, 1) := by decide +kernel
theorem dX12_back_43 : decode cX12_back 43 = .ok (.iastore, 1) := by decide +kernel
theorem dX12_back_44 : decode cX12_back 44 = .ok (.aload_n 0, 1) := by decide +kernel
theorem dX12_back_45 : decode cX12_back 45 = .ok (.getfield 29, 3) := by decide +kernel
theorem dX12_back_48 : decode cX12_back 48 = .ok (.iload_n 1, 1) := by decide +kernel
theorem dX12_back_49 : decode cX12_back 49 = .ok (.aload_n 0, 1) := by decide +kernel
theorem dX12_back_50 : decode cX12_back 50 = .ok (.getfield 50, 3) := by decide +kernel
theorem dX12_back_53 : decode cX12_back 53 = .ok (.iconst 4, 1) := by decide +kernel
theorem dX12_back_54 : decode cX12_back 54 = .ok (.iload_n 1, 1) := by decide +kernel
theorem dX12_back_55 : decode cX12_back 55 = .ok (.iadd, 1) := by decide +kernel
theorem dX12_back_56 : decode cX12_back 56 = .ok (.iaload, 1) := by decide +kernel
theorem dX12_back_57 : decode cX12_back 57 = .ok (.iastore, 1) := by decide +kernel
theorem dX12_back_58 : decode cX12_back 58 = .ok (.aload_n 0, 1) := by decide +kernel
theorem dX12_back_59 : decode cX12_back 59 = .ok (.getfield 32, 3) := by decide +kernel
theorem dX12_back_62 : decode cX12_back 62 = .ok (.iload_n 1, 1) := by decide +kernel
theorem dX12_back_63 : decode cX12_back 63 = .ok (.aload_n 0, 1) := by decide +kernel
theorem dX12_back_64 : decode cX12_back 64 = .ok (.getfield 50, 3) := by decide +kernel
theorem dX12_back_67 : decode cX12_back 67 = .ok (.bipush 6, 2) := by decide +kernel
theorem dX12_back_69 : decode cX12_back 69 = .ok (.iload_n 1, 1) := by decide +kernel
theorem dX12_back_70 : decode cX12_back 70 = .ok (.iadd, 1) := by decide +kernel
theorem dX12_back_71 : decode cX12_back 71 = .ok (.iaload, 1) := by decide +kernel
theorem dX12_back_72 : decode cX12_back 72 = .ok (.iastore, 1) := by decide +kernel
theorem dX12_back_73 : decode cX12_back 73 = .ok (.iinc 1 1, 3) := by decide +kernel
theorem dX12_back_76 : decode cX12_back 76 = .ok (.goto (-63), 3) := by decide +kernel
theorem dX12_back_79 : decode cX12_back 79 = .ok (.iconst 0, 1) := by decide +kernel
theorem dX12_back_80 : decode cX12_back 80 = .ok (.istore_n 1, 1) := by decide +kernel
theorem dX12_back_81 : decode cX12_back 81 = .ok (.iload_n 1, 1) := by decide +kernel
theorem dX12_back_82 : decode cX12_back 82 = .ok (.bipush 6, 2) := by decide +kernel
theorem dX12_back_84 : decode cX12_back 84 = .ok (.if_icmp .ge 36, 3) := by decide +kernel
theorem dX12_back_87 : decode cX12_back 87 = .ok (.aload_n 0, 1) := by decide +kernel
theorem dX12_back_88 : decode cX12_back 88 = .ok (.getfield 38, 3) := by decide +kernel
theorem dX12_back_91 : decode cX12_back 91 = .ok (.iload_n 1, 1) := by decide +kernel
theorem dX12_back_92 : decode cX12_back 92 = .ok (.aload_n 0, 1) := by decide +kernel
theorem dX12_back_93 : decode cX12_back 93 = .ok (.getfield 53, 3) := by decide +kernel
theorem dX12_back_96 : decode cX12_back 96 = .ok (.iload_n 1, 1) := by decide +kernel
theorem dX12_back_97 : decode cX12_back 97 = .ok (.iaload, 1) := by decide +kernel
theorem dX12_back_98 : decode cX12_back 98 = .ok (.iastore, 1) := by decide +kernel
theorem dX12_back_99 : decode cX12_back 99 = .ok (.aload_n 0, 1) := by decide +kernel
theorem dX12_back_100 : decode cX12_back 100 = .ok (.getfield 41, 3) := by decide +kernel
theorem dX12_back_103 : decode cX12_back 103 = .ok (.iload_n 1, 1) := by decide +kernel
theorem dX12_back_104 : decode cX12_back 104 = .ok (.aload_n 0, 1) := by decide +kernel
theorem dX12_back_105 : decode cX12_back 105 = .ok (.getfield 53, 3) := by decide +kernel
theorem dX12_back_108 : decode cX12_back 108 = .ok (.bipush 6, 2) := by decide +kernel
theorem dX12_back_110 : decode cX12_back 110 = .ok (.iload_n 1, 1) := by decide +kernel
theorem dX12_back_111 : decode cX12_back 111 = .ok (.iadd, 1) := by decide +kernel
theorem dX12_back_112 : decode cX12_back 112 = .ok (.iaload, 1) := by decide +kernel
theorem dX12_back_113 : decode cX12_back 113 = .ok (.iastore, 1) := by decide +kernel
theorem dX12_back_114 : decode cX12_back 114 = .ok (.iinc 1 1, 3) := by decide +kernel
theorem dX12_back_117 : decode cX12_back 117 = .ok (.goto (-36), 3) := by decide +kernel
theorem dX12_back_120 : decode cX12_back 120 = .ok (.aload_n 0, 1) := by decide +kernel
theorem dX12_back_121 : decode cX12_back 121 = .ok (.aload_n 0, 1) := by decide +kernel
theorem dX12_back_122 : decode cX12_back 122 = .ok (.getfield 56, 3) := by decide +kernel
theorem dX12_back_125 : decode cX12_back 125 = .ok (.putfield 79, 3) := by decide +kernel
theorem dX12_back_128 : decode cX12_back 128 = .ok (.aload_n 0, 1) := by decide +kernel
theorem dX12_back_129 : decode cX12_back 129 = .ok (.aload_n 0, 1) := by decide +kernel
theorem dX12_back_130 : decode cX12_back 130 = .ok (.getfield 364, 3) := by decide +kernel
theorem dX12_back_133 : decode cX12_back 133 = .ok (.putfield 109, 3) := by decide +kernel
theorem dX12_back_136 : decode cX12_back 136 = .ok (.aload_n 0, 1) := by decide +kernel
theorem dX12_back_137 : decode cX12_back 137 = .ok (.aload_n 0, 1) := by decide +kernel
theorem dX12_back_138 : decode cX12_back 138 = .ok (.getfield 367, 3) := by decide +kernel
theorem dX12_back_141 : decode cX12_back 141 = .ok (.putfield 239, 3) := by decide +kernel
theorem dX12_back_144 : decode cX12_back 144 = .ok (.aload_n 0, 1) := by decide +kernel
theorem dX12_back_145 : decode cX12_back 145 = .ok (.getfield 79, 3) := by decide +kernel
theorem dX12_back_148 : decode cX12_back 148 = .ok (.ireturn, 1) := by decide +kernel
theorem dX12_count_0 : decode cX12_count 0 = .ok (.iload_n 1, 1) := by decide +kernel
theorem dX12_count_1 : decode cX12_count 1 = .ok (.i2l, 1) := by decide +kernel
theorem dX12_count_2 : decode cX12_count 2 = .ok (.lconst 0, 1) := by decide +kernel
theorem dX12_count_3 : decode cX12_count 3 = .ok (.ldc2_w 94, 3) := by decide +kernel
theorem dX12_count_6 : decode cX12_count 6 = .ok (.invokestatic 82, 3) := by decide +kernel
theorem dX12_count_9 : decode cX12_count 9 = .ok (.ifCond .ne 6, 3) := by decide +kernel
theorem dX12_count_12 : decode cX12_count 12 = .ok (.bipush (-2), 2) := by decide +kernel
theorem dX12_count_14 : decode cX12_count 14 = .ok (.ireturn, 1) := by decide +kernel
theorem dX12_count_15 : decode cX12_count 15 = .ok (.iload_n 1, 1) := by decide +kernel
theorem dX12_count_16 : decode cX12_count 16 = .ok (.ifCond .ne 10, 3) := by decide +kernel
theorem dX12_count_19 : decode cX12_count 19 = .ok (.aload_n 0, 1) := by decide +kernel
theorem dX12_count_20 : decode cX12_count 20 = .ok (.getfield 79, 3) := by decide +kernel
theorem dX12_count_23 : decode cX12_count 23 = .ok (.goto 43, 3) := by decide +kernel
theorem dX12_count_26 : decode cX12_count 26 = .ok (.iload_n 1, 1) := by decide +kernel
theorem dX12_count_27 : decode cX12_count 27 = .ok (.iconst 1, 1) := by decide +kernel
theorem dX12_count_28 : decode cX12_count 28 = .ok (.if_icmp .ne 10, 3) := by decide +kernel
theorem dX12_count_31 : decode cX12_count 31 = .ok (.aload_n 0, 1) := by decide +kernel
theorem dX12_count_32 : decode cX12_count 32 = .ok (.getfield 109, 3) := by decide +kernel
theorem dX12_count_35 : decode cX12_count 35 = .ok (.goto 31, 3) := by decide +kernel
theorem dX12_count_38 : decode cX12_count 38 = .ok (.iload_n 1, 1) := by decide +kernel
theorem dX12_count_39 : decode cX12_count 39 = .ok (.iconst 2, 1) := by decide +kernel
theorem dX12_count_40 : decode cX12_count 40 = .ok (.if_icmp .ne 10, 3) := by decide +kernel
theorem dX12_count_43 : decode cX12_count 43 = .ok (.aload_n 0, 1) := by decide +kernel
theorem dX12_count_44 : decode cX12_count 44 = .ok (.getfield 76, 3) := by decide +kernel
theorem dX12_count_47 : decode cX12_count 47 = .ok (.goto 19, 3) := by decide +kernel
theorem dX12_count_50 : decode cX12_count 50 = .ok (.iload_n 1, 1) := by decide +kernel
theorem dX12_count_51 : decode cX12_count 51 = .ok (.iconst 3, 1) := by decide +kernel
theorem dX12_count_52 : decode cX12_count 52 = .ok (.if_icmp .ne 10, 3) := by decide +kernel
theorem dX12_count_55 : decode cX12_count 55 = .ok (.aload_n 0, 1) := by decide +kernel
theorem dX12_count_56 : decode cX12_count 56 = .ok (.getfield 121, 3) := by decide +kernel
theorem dX12_count_59 : decode cX12_count 59 = .ok (.goto 7, 3) := by decide +kernel
theorem dX12_count_62 : decode cX12_count 62 = .ok (.aload_n 0, 1) := by decide +kernel
theorem dX12_count_63 : decode cX12_count 63 = .ok (.getfield 239, 3) := by decide +kernel
theorem dX12_count_66 : decode cX12_count 66 = .ok (.ireturn, 1) := by decide +kernel
theorem dX12_isSheet_0 : decode cX12_isSheet 0 = .ok (.iload_n 0, 1) := by decide +kernel
theorem dX12_isSheet_1 : decode cX12_isSheet 1 = .ok (.i2l, 1) := by decide +kernel
theorem dX12_isSheet_2 : decode cX12_isSheet 2 = .ok (.lconst 0, 1) := by decide +kernel
theorem dX12_isSheet_3 : decode cX12_isSheet 3 = .ok (.ldc2_w 370, 3) := by decide +kernel
theorem dX12_isSheet_6 : decode cX12_isSheet 6 = .ok (.invokestatic 82, 3) := by decide +kernel
theorem dX12_isSheet_9 : decode cX12_isSheet 9 = .ok (.ireturn, 1) := by decide +kernel
theorem dX12_sheet_0 : decode cX12_sheet 0 = .ok (.iload_n 1, 1) := by decide +kernel
theorem dX12_sheet_1 : decode cX12_sheet 1 = .ok (.invokestatic 309, 3) := by decide +kernel
theorem dX12_sheet_4 : decode cX12_sheet 4 = .ok (.ifCond .eq 27, 3) := by decide +kernel
theorem dX12_sheet_7 : decode cX12_sheet 7 = .ok (.iload_n 2, 1) := by decide +kernel
theorem dX12_sheet_8 : decode cX12_sheet 8 = .ok (.i2l, 1) := by decide +kernel
theorem dX12_sheet_9 : decode cX12_sheet 9 = .ok (.ldc2_w 101, 3) := by decide +kernel
theorem dX12_sheet_12 : decode cX12_sheet 12 = .ok (.ldc2_w 347, 3) := by decide +kernel
theorem dX12_sheet_15 : decode cX12_sheet 15 = .ok (.invokestatic 82, 3) := by decide +kernel
theorem dX12_sheet_18 : decode cX12_sheet 18 = .ok (.ifCond .eq 13, 3) := by decide +kernel
theorem dX12_sheet_21 : decode cX12_sheet 21 = .ok (.iload_n 2, 1) := by decide +kernel
theorem dX12_sheet_22 : decode cX12_sheet 22 = .ok (.ifCond .lt 12, 3) := by decide +kernel
theorem dX12_sheet_25 : decode cX12_sheet 25 = .ok (.iload_n 3, 1) := by decide +kernel
theorem dX12_sheet_26 : decode cX12_sheet 26 = .ok (.bipush 40, 2) := by decide +kernel
theorem dX12_sheet_28 : decode cX12_sheet 28 = .ok (.if_icmp .le 6, 3) := by decide +kernel
theorem dX12_sheet_31 : decode cX12_sheet 31 = .ok (.bipush (-2), 2) := by decide +kernel
theorem dX12_sheet_33 : decode cX12_sheet 33 = .ok (.ireturn, 1) := by decide +kernel
theorem dX12_sheet_34 : decode cX12_sheet 34 = .ok (.iload_n 2, 1) := by decide +kernel
theorem dX12_sheet_35 : decode cX12_sheet 35 = .ok (.ifCond .lt 10, 3) := by decide +kernel
theorem dX12_sheet_38 : decode cX12_sheet 38 = .ok (.iload_n 3, 1) := by decide +kernel
theorem dX12_sheet_39 : decode cX12_sheet 39 = .ok (.ifCond .ge 6, 3) := by decide +kernel
theorem dX12_sheet_42 : decode cX12_sheet 42 = .ok (.bipush (-14), 2) := by decide +kernel
theorem dX12_sheet_44 : decode cX12_sheet 44 = .ok (.ireturn, 1) := by decide +kernel
theorem dX12_sheet_45 : decode cX12_sheet 45 = .ok (.aload_n 0, 1) := by decide +kernel
theorem dX12_sheet_46 : decode cX12_sheet 46 = .ok (.getfield 59, 3) := by decide +kernel
theorem dX12_sheet_49 : decode cX12_sheet 49 = .ok (.iload_n 1, 1) := by decide +kernel
theorem dX12_sheet_50 : decode cX12_sheet 50 = .ok (.iload_n 2, 1) := by decide +kernel
theorem dX12_sheet_51 : decode cX12_sheet 51 = .ok (.ifCond .lt 7, 3) := by decide +kernel
theorem dX12_sheet_54 : decode cX12_sheet 54 = .ok (.iconst 1, 1) := by decide +kernel
theorem dX12_sheet_55 : decode cX12_sheet 55 = .ok (.goto 4, 3) := by decide +kernel
theorem dX12_sheet_58 : decode cX12_sheet 58 = .ok (.iconst 0, 1) := by decide +kernel
theorem dX12_sheet_59 : decode cX12_sheet 59 = .ok (.bastore, 1) := by decide +kernel
theorem dX12_sheet_60 : decode cX12_sheet 60 = .ok (.aload_n 0, 1) := by decide +kernel
theorem dX12_sheet_61 : decode cX12_sheet 61 = .ok (.getfield 63, 3) := by decide +kernel
theorem dX12_sheet_64 : decode cX12_sheet 64 = .ok (.iload_n 1, 1) := by decide +kernel
theorem dX12_sheet_65 : decode cX12_sheet 65 = .ok (.iload_n 2, 1) := by decide +kernel
theorem dX12_sheet_66 : decode cX12_sheet 66 = .ok (.iastore, 1) := by decide +kernel
theorem dX12_sheet_67 : decode cX12_sheet 67 = .ok (.aload_n 0, 1) := by decide +kernel
theorem dX12_sheet_68 : decode cX12_sheet 68 = .ok (.getfield 66, 3) := by decide +kernel
theorem dX12_sheet_71 : decode cX12_sheet 71 = .ok (.iload_n 1, 1) := by decide +kernel
theorem dX12_sheet_72 : decode cX12_sheet 72 = .ok (.iload_n 3, 1) := by decide +kernel
theorem dX12_sheet_73 : decode cX12_sheet 73 = .ok (.iastore, 1) := by decide +kernel
theorem dX12_sheet_74 : decode cX12_sheet 74 = .ok (.iconst 0, 1) := by decide +kernel
theorem dX12_sheet_75 : decode cX12_sheet 75 = .ok (.istore 4, 2) := by decide +kernel
theorem dX12_sheet_77 : decode cX12_sheet 77 = .ok (.iload 4, 2) := by decide +kernel
theorem dX12_sheet_79 : decode cX12_sheet 79 = .ok (.iload_n 3, 1) := by decide +kernel
theorem dX12_sheet_80 : decode cX12_sheet 80 = .ok (.if_icmp .ge 26, 3) := by decide +kernel
theorem dX12_sheet_83 : decode cX12_sheet 83 = .ok (.iload_n 2, 1) := by decide +kernel
theorem dX12_sheet_84 : decode cX12_sheet 84 = .ok (.ifCond .lt 22, 3) := by decide +kernel
theorem dX12_sheet_87 : decode cX12_sheet 87 = .ok (.aload_n 0, 1) := by decide +kernel
theorem dX12_sheet_88 : decode cX12_sheet 88 = .ok (.getfield 69, 3) := by decide +kernel
theorem dX12_sheet_91 : decode cX12_sheet 91 = .ok (.bipush 40, 2) := by decide +kernel
theorem dX12_sheet_93 : decode cX12_sheet 93 = .ok (.iload_n 1, 1) := by decide +kernel
theorem dX12_sheet_94 : decode cX12_sheet 94 = .ok (.imul, 1) := by decide +kernel
theorem dX12_sheet_95 : decode cX12_sheet 95 = .ok (.iload 4, 2) := by decide +kernel
theorem dX12_sheet_97 : decode cX12_sheet 97 = .ok (.iadd, 1) := by decide +kernel
theorem dX12_sheet_98 : decode cX12_sheet 98 = .ok (.iconst 0, 1) := by decide +kernel
theorem dX12_sheet_99 : decode cX12_sheet 99 = .ok (.iastore, 1) := by decide +kernel
theorem dX12_sheet_100 : decode cX12_sheet 100 = .ok (.iinc 4 1, 3) := by decide +kernel
theorem dX12_sheet_103 : decode cX12_sheet 103 = .ok (.goto (-26), 3) := by decide +kernel
theorem dX12_sheet_106 : decode cX12_sheet 106 = .ok (.iconst 1, 1) := by decide +kernel
theorem dX12_sheet_107 : decode cX12_sheet 107 = .ok (.ireturn, 1) := by decide +kernel
theorem dX12_cell_0 : decode cX12_cell 0 = .ok (.iload_n 1, 1) := by decide +kernel
theorem dX12_cell_1 : decode cX12_cell 1 = .ok (.invokestatic 309, 3) := by decide +kernel
theorem dX12_cell_4 : decode cX12_cell 4 = .ok (.ifCond .ne 6, 3) := by decide +kernel
theorem dX12_cell_7 : decode cX12_cell 7 = .ok (.bipush (-2), 2) := by decide +kernel
theorem dX12_cell_9 : decode cX12_cell 9 = .ok (.ireturn, 1) := by decide +kernel
theorem dX12_cell_10 : decode cX12_cell 10 = .ok (.aload_n 0, 1) := by decide +kernel
theorem dX12_cell_11 : decode cX12_cell 11 = .ok (.getfield 59, 3) := by decide +kernel
theorem dX12_cell_14 : decode cX12_cell 14 = .ok (.iload_n 1, 1) := by decide +kernel
theorem dX12_cell_15 : decode cX12_cell 15 = .ok (.baload, 1) := by decide +kernel
theorem dX12_cell_16 : decode cX12_cell 16 = .ok (.ifCond .ne 6, 3) := by decide +kernel
theorem dX12_cell_19 : decode cX12_cell 19 = .ok (.bipush (-11), 2) := by decide +kernel
theorem dX12_cell_21 : decode cX12_cell 21 = .ok (.ireturn, 1) := by decide +kernel
theorem dX12_cell_22 : decode cX12_cell 22 = .ok (.iload_n 2, 1) := by decide +kernel
theorem dX12_cell_23 : decode cX12_cell 23 = .ok (.i2l, 1) := by decide +kernel
theorem dX12_cell_24 : decode cX12_cell 24 = .ok (.lconst 0, 1) := by decide +kernel
theorem dX12_cell_25 : decode cX12_cell 25 = .ok (.aload_n 0, 1) := by decide +kernel
theorem dX12_cell_26 : decode cX12_cell 26 = .ok (.getfield 66, 3) := by decide +kernel
theorem dX12_cell_29 : decode cX12_cell 29 = .ok (.iload_n 1, 1) := by decide +kernel
theorem dX12_cell_30 : decode cX12_cell 30 = .ok (.iaload, 1) := by decide +kernel
theorem dX12_cell_31 : decode cX12_cell 31 = .ok (.iconst 1, 1) := by decide +kernel
theorem dX12_cell_32 : decode cX12_cell 32 = .ok (.isub, 1) := by decide +kernel
theorem dX12_cell_33 : decode cX12_cell 33 = .ok (.i2l, 1) := by decide +kernel
theorem dX12_cell_34 : decode cX12_cell 34 = .ok (.invokestatic 82, 3) := by decide +kernel
theorem dX12_cell_37 : decode cX12_cell 37 = .ok (.ifCond .ne 6, 3) := by decide +kernel
theorem dX12_cell_40 : decode cX12_cell 40 = .ok (.bipush (-12), 2) := by decide +kernel
theorem dX12_cell_42 : decode cX12_cell 42 = .ok (.ireturn, 1) := by decide +kernel
theorem dX12_cell_43 : decode cX12_cell 43 = .ok (.aload_n 0, 1) := by decide +kernel
theorem dX12_cell_44 : decode cX12_cell 44 = .ok (.getfield 69, 3) := by decide +kernel
theorem dX12_cell_47 : decode cX12_cell 47 = .ok (.bipush 40, 2) := by decide +kernel
theorem dX12_cell_49 : decode cX12_cell 49 = .ok (.iload_n 1, 1) := by decide +kernel
theorem dX12_cell_50 : decode cX12_cell 50 = .ok (.imul, 1) := by decide +kernel
theorem dX12_cell_51 : decode cX12_cell 51 = .ok (.iload_n 2, 1) := by decide +kernel
theorem dX12_cell_52 : decode cX12_cell 52 = .ok (.iadd, 1) := by decide +kernel
theorem dX12_cell_53 : decode cX12_cell 53 = .ok (.aload_n 0, 1) := by decide +kernel
theorem dX12_cell_54 : decode cX12_cell 54 = .ok (.getfield 63, 3) := by decide +kernel
theorem dX12_cell_57 : decode cX12_cell 57 = .ok (.iload_n 1, 1) := by decide +kernel
theorem dX12_cell_58 : decode cX12_cell 58 = .ok (.iaload, 1) := by decide +kernel
theorem dX12_cell_59 : decode cX12_cell 59 = .ok (.ifCond .ne 8, 3) := by decide +kernel
theorem dX12_cell_62 : decode cX12_cell 62 = .ok (.iload_n 3, 1) := by decide +kernel
theorem dX12_cell_63 : decode cX12_cell 63 = .ok (.i2b, 1) := by decide +kernel
theorem dX12_cell_64 : decode cX12_cell 64 = .ok (.goto 19, 3) := by decide +kernel
theorem dX12_cell_67 : decode cX12_cell 67 = .ok (.aload_n 0, 1) := by decide +kernel
theorem dX12_cell_68 : decode cX12_cell 68 = .ok (.getfield 63, 3) := by decide +kernel
theorem dX12_cell_71 : decode cX12_cell 71 = .ok (.iload_n 1, 1) := by decide +kernel
theorem dX12_cell_72 : decode cX12_cell 72 = .ok (.iaload, 1) := by decide +kernel
theorem dX12_cell_73 : decode cX12_cell 73 = .ok (.iconst 1, 1) := by decide +kernel
theorem dX12_cell_74 : decode cX12_cell 74 = .ok (.if_icmp .ne 8, 3) := by decide +kernel
theorem dX12_cell_77 : decode cX12_cell 77 = .ok (.iload_n 3, 1) := by decide +kernel
theorem dX12_cell_78 : decode cX12_cell 78 = .ok (.i2s, 1) := by decide +kernel
theorem dX12_cell_79 : decode cX12_cell 79 = .ok (.goto 4, 3) := by decide +kernel
theorem dX12_cell_82 : decode cX12_cell 82 = .ok (.iload_n 3, 1) := by decide +kernel
theorem dX12_cell_83 : decode cX12_cell 83 = .ok (.iastore, 1) := by decide +kernel
theorem dX12_cell_84 : decode cX12_cell 84 = .ok (.iconst 1, 1) := by decide +kernel
theorem dX12_cell_85 : decode cX12_cell 85 = .ok (.ireturn, 1) := by decide +kernel
theorem dX12_copy_0 : decode cX12_copy 0 = .ok (.iload_n 1, 1) := by decide +kernel
theorem dX12_copy_1 : decode cX12_copy 1 = .ok (.invokestatic 309, 3) := by decide +kernel
theorem dX12_copy_4 : decode cX12_copy 4 = .ok (.ifCond .eq 10, 3) := by decide +kernel
theorem dX12_copy_7 : decode cX12_copy 7 = .ok (.iload_n 3, 1) := by decide +kernel
theorem dX12_copy_8 : decode cX12_copy 8 = .ok (.invokestatic 309, 3) := by decide +kernel
theorem dX12_copy_11 : decode cX12_copy 11 = .ok (.ifCond .ne 6, 3) := by decide +kernel
theorem dX12_copy_14 : decode cX12_copy 14 = .ok (.bipush (-2), 2) := by decide +kernel
theorem dX12_copy_16 : decode cX12_copy 16 = .ok (.ireturn, 1) := by decide +kernel
theorem dX12_copy_17 : decode cX12_copy 17 = .ok (.aload_n 0, 1) := by decide +kernel
theorem dX12_copy_18 : decode cX12_copy 18 = .ok (.getfield 59, 3) := by decide +kernel
theorem dX12_copy_21 : decode cX12_copy 21 = .ok (.iload_n 1, 1) := by decide +kernel
theorem dX12_copy_22 : decode cX12_copy 22 = .ok (.baload, 1) := by decide +kernel
theorem dX12_copy_23 : decode cX12_copy 23 = .ok (.ifCond .eq 12, 3) := by decide +kernel
theorem dX12_copy_26 : decode cX12_copy 26 = .ok (.aload_n 0, 1) := by decide +kernel
theorem dX12_copy_27 : decode cX12_copy 27 = .ok (.getfield 59, 3) := by decide +kernel
theorem dX12_copy_30 : decode cX12_copy 30 = .ok (.iload_n 3, 1) := by decide +kernel
theorem dX12_copy_31 : decode cX12_copy 31 = .ok (.baload, 1) := by decide +kernel
theorem dX12_copy_32 : decode cX12_copy 32 = .ok (.ifCond .ne 6, 3) := by decide +kernel
theorem dX12_copy_35 : decode cX12_copy 35 = .ok (.bipush (-11), 2) := by decide +kernel
theorem dX12_copy_37 : decode cX12_copy 37 = .ok (.ireturn, 1) := by decide +kernel
theorem dX12_copy_38 : decode cX12_copy 38 = .ok (.aload_n 0, 1) := by decide +kernel
theorem dX12_copy_39 : decode cX12_copy 39 = .ok (.getfield 63, 3) := by decide +kernel
theorem dX12_copy_42 : decode cX12_copy 42 = .ok (.iload_n 1, 1) := by decide +kernel
theorem dX12_copy_43 : decode cX12_copy 43 = .ok (.iaload, 1) := by decide +kernel
theorem dX12_copy_44 : decode cX12_copy 44 = .ok (.aload_n 0, 1) := by decide +kernel
theorem dX12_copy_45 : decode cX12_copy 45 = .ok (.getfield 63, 3) := by decide +kernel
theorem dX12_copy_48 : decode cX12_copy 48 = .ok (.iload_n 3, 1) := by decide +kernel
theorem dX12_copy_49 : decode cX12_copy 49 = .ok (.iaload, 1) := by decide +kernel
theorem dX12_copy_50 : decode cX12_copy 50 = .ok (.if_icmp .eq 6, 3) := by decide +kernel
theorem dX12_copy_53 : decode cX12_copy 53 = .ok (.bipush (-13), 2) := by decide +kernel
theorem dX12_copy_55 : decode cX12_copy 55 = .ok (.ireturn, 1) := by decide +kernel
theorem dX12_copy_56 : decode cX12_copy 56 = .ok (.iload 5, 2) := by decide +kernel
theorem dX12_copy_58 : decode cX12_copy 58 = .ok (.ifCond .lt 39, 3) := by decide +kernel
theorem dX12_copy_61 : decode cX12_copy 61 = .ok (.iload_n 2, 1) := by decide +kernel
theorem dX12_copy_62 : decode cX12_copy 62 = .ok (.ifCond .lt 35, 3) := by decide +kernel
theorem dX12_copy_65 : decode cX12_copy 65 = .ok (.iload 4, 2) := by decide +kernel
theorem dX12_copy_67 : decode cX12_copy 67 = .ok (.ifCond .lt 30, 3) := by decide +kernel
theorem dX12_copy_70 : decode cX12_copy 70 = .ok (.iload_n 2, 1) := by decide +kernel
theorem dX12_copy_71 : decode cX12_copy 71 = .ok (.aload_n 0, 1) := by decide +kernel
theorem dX12_copy_72 : decode cX12_copy 72 = .ok (.getfield 66, 3) := by decide +kernel
theorem dX12_copy_75 : decode cX12_copy 75 = .ok (.iload_n 1, 1) := by decide +kernel
theorem dX12_copy_76 : decode cX12_copy 76 = .ok (.iaload, 1) := by decide +kernel
theorem dX12_copy_77 : decode cX12_copy 77 = .ok (.iload 5, 2) := by decide +kernel
theorem dX12_copy_79 : decode cX12_copy 79 = .ok (.isub, 1) := by decide +kernel
theorem dX12_copy_80 : decode cX12_copy 80 = .ok (.if_icmp .gt 17, 3) := by decide +kernel
theorem dX12_copy_83 : decode cX12_copy 83 = .ok (.iload 4, 2) := by decide +kernel
theorem dX12_copy_85 : decode cX12_copy 85 = .ok (.aload_n 0, 1) := by decide +kernel
theorem dX12_copy_86 : decode cX12_copy 86 = .ok (.getfield 66, 3) := by decide +kernel
theorem dX12_copy_89 : decode cX12_copy 89 = .ok (.iload_n 3, 1) := by decide +kernel
theorem dX12_copy_90 : decode cX12_copy 90 = .ok (.iaload, 1) := by decide +kernel
theorem dX12_copy_91 : decode cX12_copy 91 = .ok (.iload 5, 2) := by decide +kernel
theorem dX12_copy_93 : decode cX12_copy 93 = .ok (.isub, 1) := by decide +kernel
theorem dX12_copy_94 : decode cX12_copy 94 = .ok (.if_icmp .le 6, 3) := by decide +kernel
theorem dX12_copy_97 : decode cX12_copy 97 = .ok (.bipush (-12), 2) := by decide +kernel
theorem dX12_copy_99 : decode cX12_copy 99 = .ok (.ireturn, 1) := by decide +kernel
theorem dX12_copy_100 : decode cX12_copy 100 = .ok (.iload_n 1, 1) := by decide +kernel
theorem dX12_copy_101 : decode cX12_copy 101 = .ok (.iload_n 3, 1) := by decide +kernel
theorem dX12_copy_102 : decode cX12_copy 102 = .ok (.if_icmp .ne 13, 3) := by decide +kernel
theorem dX12_copy_105 : decode cX12_copy 105 = .ok (.iload_n 2, 1) := by decide +kernel
theorem dX12_copy_106 : decode cX12_copy 106 = .ok (.iload 4, 2) := by decide +kernel
theorem dX12_copy_108 : decode cX12_copy 108 = .ok (.if_icmp .ge 7, 3) := by decide +kernel
theorem dX12_copy_111 : decode cX12_copy 111 = .ok (.iconst 1, 1) := by decide +kernel
theorem dX12_copy_112 : decode cX12_copy 112 = .ok (.goto 4, 3) := by decide +kernel
theorem dX12_copy_115 : decode cX12_copy 115 = .ok (.iconst 0, 1) := by decide +kernel
theorem dX12_copy_116 : decode cX12_copy 116 = .ok (.istore 6, 2) := by decide +kernel
theorem dX12_copy_118 : decode cX12_copy 118 = .ok (.iconst 0, 1) := by decide +kernel
theorem dX12_copy_119 : decode cX12_copy 119 = .ok (.istore 7, 2) := by decide +kernel
theorem dX12_copy_121 : decode cX12_copy 121 = .ok (.iload 7, 2) := by decide +kernel
theorem dX12_copy_123 : decode cX12_copy 123 = .ok (.iload 5, 2) := by decide +kernel
theorem dX12_copy_125 : decode cX12_copy 125 = .ok (.if_icmp .ge 57, 3) := by decide +kernel
theorem dX12_copy_128 : decode cX12_copy 128 = .ok (.iload 6, 2) := by decide +kernel
theorem dX12_copy_130 : decode cX12_copy 130 = .ok (.ifCond .eq 13, 3) := by decide +kernel
theorem dX12_copy_133 : decode cX12_copy 133 = .ok (.iload 5, 2) := by decide +kernel
theorem dX12_copy_135 : decode cX12_copy 135 = .ok (.iconst 1, 1) := by decide +kernel
theorem dX12_copy_136 : decode cX12_copy 136 = .ok (.isub, 1) := by decide +kernel
theorem dX12_copy_137 : decode cX12_copy 137 = .ok (.iload 7, 2) := by decide +kernel
theorem dX12_copy_139 : decode cX12_copy 139 = .ok (.isub, 1) := by decide +kernel
theorem dX12_copy_140 : decode cX12_copy 140 = .ok (.goto 5, 3) := by decide +kernel
theorem dX12_copy_143 : decode cX12_copy 143 = .ok (.iload 7, 2) := by decide +kernel
theorem dX12_copy_145 : decode cX12_copy 145 = .ok (.istore 8, 2) := by decide +kernel
theorem dX12_copy_147 : decode cX12_copy 147 = .ok (.aload_n 0, 1) := by decide +kernel
theorem dX12_copy_148 : decode cX12_copy 148 = .ok (.getfield 69, 3) := by decide +kernel
theorem dX12_copy_151 : decode cX12_copy 151 = .ok (.bipush 40, 2) := by decide +kernel
theorem dX12_copy_153 : decode cX12_copy 153 = .ok (.iload_n 3, 1) := by decide +kernel
theorem dX12_copy_154 : decode cX12_copy 154 = .ok (.imul, 1) := by decide +kernel
theorem dX12_copy_155 : decode cX12_copy 155 = .ok (.iload 4, 2) := by decide +kernel
theorem dX12_copy_157 : decode cX12_copy 157 = .ok (.iadd, 1) := by decide +kernel
theorem dX12_copy_158 : decode cX12_copy 158 = .ok (.iload 8, 2) := by decide +kernel
theorem dX12_copy_160 : decode cX12_copy 160 = .ok (.iadd, 1) := by decide +kernel
theorem dX12_copy_161 : decode cX12_copy 161 = .ok (.aload_n 0, 1) := by decide +kernel
theorem dX12_copy_162 : decode cX12_copy 162 = .ok (.getfield 69, 3) := by decide +kernel
theorem dX12_copy_165 : decode cX12_copy 165 = .ok (.bipush 40, 2) := by decide +kernel
theorem dX12_copy_167 : decode cX12_copy 167 = .ok (.iload_n 1, 1) := by decide +kernel
theorem dX12_copy_168 : decode cX12_copy 168 = .ok (.imul, 1) := by decide +kernel
theorem dX12_copy_169 : decode cX12_copy 169 = .ok (.iload_n 2, 1) := by decide +kernel
theorem dX12_copy_170 : decode cX12_copy 170 = .ok (.iadd, 1) := by decide +kernel
theorem dX12_copy_171 : decode cX12_copy 171 = .ok (.iload 8, 2) := by decide +kernel
theorem dX12_copy_173 : decode cX12_copy 173 = .ok (.iadd, 1) := by decide +kernel
theorem dX12_copy_174 : decode cX12_copy 174 = .ok (.iaload, 1) := by decide +kernel
theorem dX12_copy_175 : decode cX12_copy 175 = .ok (.iastore, 1) := by decide +kernel
theorem dX12_copy_176 : decode cX12_copy 176 = .ok (.iinc 7 1, 3) := by decide +kernel
theorem dX12_copy_179 : decode cX12_copy 179 = .ok (.goto (-58), 3) := by decide +kernel
theorem dX12_copy_182 : decode cX12_copy 182 = .ok (.iload 5, 2) := by decide +kernel
theorem dX12_copy_184 : decode cX12_copy 184 = .ok (.ireturn, 1) := by decide +kernel
theorem dX12_strokes_0 : decode cX12_strokes 0 = .ok (.iload_n 1, 1) := by decide +kernel
theorem dX12_strokes_1 : decode cX12_strokes 1 = .ok (.invokestatic 309, 3) := by decide +kernel
theorem dX12_strokes_4 : decode cX12_strokes 4 = .ok (.ifCond .eq 28, 3) := by decide +kernel
theorem dX12_strokes_7 : decode cX12_strokes 7 = .ok (.iload_n 2, 1) := by decide +kernel
theorem dX12_strokes_8 : decode cX12_strokes 8 = .ok (.i2l, 1) := by decide +kernel
theorem dX12_strokes_9 : decode cX12_strokes 9 = .ok (.lconst 0, 1) := by decide +kernel
theorem dX12_strokes_10 : decode cX12_strokes 10 = .ok (.ldc2_w 347, 3) := by decide +kernel
theorem dX12_strokes_13 : decode cX12_strokes 13 = .ok (.invokestatic 82, 3) := by decide +kernel
theorem dX12_strokes_16 : decode cX12_strokes 16 = .ok (.ifCond .eq 16, 3) := by decide +kernel
theorem dX12_strokes_19 : decode cX12_strokes 19 = .ok (.iload 4, 2) := by decide +kernel
theorem dX12_strokes_21 : decode cX12_strokes 21 = .ok (.i2l, 1) := by decide +kernel
theorem dX12_strokes_22 : decode cX12_strokes 22 = .ok (.lconst 0, 1) := by decide +kernel
theorem dX12_strokes_23 : decode cX12_strokes 23 = .ok (.ldc2_w 88, 3) := by decide +kernel
theorem dX12_strokes_26 : decode cX12_strokes 26 = .ok (.invokestatic 82, 3) := by decide +kernel
theorem dX12_strokes_29 : decode cX12_strokes 29 = .ok (.ifCond .ne 6, 3) := by decide +kernel
theorem dX12_strokes_32 : decode cX12_strokes 32 = .ok (.bipush (-2), 2) := by decide +kernel
theorem dX12_strokes_34 : decode cX12_strokes 34 = .ok (.ireturn, 1) := by decide +kernel
theorem dX12_strokes_35 : decode cX12_strokes 35 = .ok (.aload_n 0, 1) := by decide +kernel
theorem dX12_strokes_36 : decode cX12_strokes 36 = .ok (.getfield 59, 3) := by decide +kernel
theorem dX12_strokes_39 : decode cX12_strokes 39 = .ok (.iload_n 1, 1) := by decide +kernel
theorem dX12_strokes_40 : decode cX12_strokes 40 = .ok (.baload, 1) := by decide +kernel
theorem dX12_strokes_41 : decode cX12_strokes 41 = .ok (.ifCond .eq 16, 3) := by decide +kernel
theorem dX12_strokes_44 : decode cX12_strokes 44 = .ok (.aload_n 0, 1) := by decide +kernel
theorem dX12_strokes_45 : decode cX12_strokes 45 = .ok (.getfield 63, 3) := by decide +kernel
theorem dX12_strokes_48 : decode cX12_strokes 48 = .ok (.iload_n 1, 1) := by decide +kernel
theorem dX12_strokes_49 : decode cX12_strokes 49 = .ok (.iaload, 1) := by decide +kernel
theorem dX12_strokes_50 : decode cX12_strokes 50 = .ok (.iload_n 2, 1) := by decide +kernel
theorem dX12_strokes_51 : decode cX12_strokes 51 = .ok (.if_icmp .eq 6, 3) := by decide +kernel
theorem dX12_strokes_54 : decode cX12_strokes 54 = .ok (.bipush (-13), 2) := by decide +kernel
theorem dX12_strokes_56 : decode cX12_strokes 56 = .ok (.ireturn, 1) := by decide +kernel
theorem dX12_strokes_57 : decode cX12_strokes 57 = .ok (.aload_n 0, 1) := by decide +kernel
theorem dX12_strokes_58 : decode cX12_strokes 58 = .ok (.getfield 59, 3) := by decide +kernel
theorem dX12_strokes_61 : decode cX12_strokes 61 = .ok (.iload_n 1, 1) := by decide +kernel
theorem dX12_strokes_62 : decode cX12_strokes 62 = .ok (.baload, 1) := by decide +kernel
theorem dX12_strokes_63 : decode cX12_strokes 63 = .ok (.ifCond .ne 6, 3) := by decide +kernel
theorem dX12_strokes_66 : decode cX12_strokes 66 = .ok (.bipush (-11), 2) := by decide +kernel
theorem dX12_strokes_68 : decode cX12_strokes 68 = .ok (.ireturn, 1) := by decide +kernel
theorem dX12_strokes_69 : decode cX12_strokes 69 = .ok (.iconst 0, 1) := by decide +kernel
theorem dX12_strokes_70 : decode cX12_strokes 70 = .ok (.istore 5, 2) := by decide +kernel
theorem dX12_strokes_72 : decode cX12_strokes 72 = .ok (.iconst 0, 1) := by decide +kernel
theorem dX12_strokes_73 : decode cX12_strokes 73 = .ok (.istore 6, 2) := by decide +kernel
theorem dX12_strokes_75 : decode cX12_strokes 75 = .ok (.iload 6, 2) := by decide +kernel
theorem dX12_strokes_77 : decode cX12_strokes 77 = .ok (.iload 4, 2) := by decide +kernel
theorem dX12_strokes_79 : decode cX12_strokes 79 = .ok (.if_icmp .ge 88, 3) := by decide +kernel
theorem dX12_strokes_82 : decode cX12_strokes 82 = .ok (.iload_n 3, 1) := by decide +kernel
theorem dX12_strokes_83 : decode cX12_strokes 83 = .ok (.ifCond .lt 20, 3) := by decide +kernel
theorem dX12_strokes_86 : decode cX12_strokes 86 = .ok (.iload_n 3, 1) := by decide +kernel
theorem dX12_strokes_87 : decode cX12_strokes 87 = .ok (.aload_n 0, 1) := by decide +kernel
theorem dX12_strokes_88 : decode cX12_strokes 88 = .ok (.getfield 66, 3) := by decide +kernel
theorem dX12_strokes_91 : decode cX12_strokes 91 = .ok (.iload_n 1, 1) := by decide +kernel
theorem dX12_strokes_92 : decode cX12_strokes 92 = .ok (.iaload, 1) := by decide +kernel
theorem dX12_strokes_93 : decode cX12_strokes 93 = .ok (.iconst 3, 1) := by decide +kernel
theorem dX12_strokes_94 : decode cX12_strokes 94 = .ok (.iload 6, 2) := by decide +kernel
theorem dX12_strokes_96 : decode cX12_strokes 96 = .ok (.imul, 1) := by decide +kernel
theorem dX12_strokes_97 : decode cX12_strokes 97 = .ok (.isub, 1) := by decide +kernel
theorem dX12_strokes_98 : decode cX12_strokes 98 = .ok (.iconst 3, 1) := by decide +kernel
theorem dX12_strokes_99 : decode cX12_strokes 99 = .ok (.isub, 1) := by decide +kernel
theorem dX12_strokes_100 : decode cX12_strokes 100 = .ok (.if_icmp .le 6, 3) := by decide +kernel
theorem dX12_strokes_103 : decode cX12_strokes 103 = .ok (.bipush (-12), 2) := by decide +kernel
theorem dX12_strokes_105 : decode cX12_strokes 105 = .ok (.ireturn, 1) := by decide +kernel
theorem dX12_strokes_106 : decode cX12_strokes 106 = .ok (.bipush 40, 2) := by decide +kernel
theorem dX12_strokes_108 : decode cX12_strokes 108 = .ok (.iload_n 1, 1) := by decide +kernel
theorem dX12_strokes_109 : decode cX12_strokes 109 = .ok (.imul, 1) := by decide +kernel
theorem dX12_strokes_110 : decode cX12_strokes 110 = .ok (.iload_n 3, 1) := by decide +kernel
theorem dX12_strokes_111 : decode cX12_strokes 111 = .ok (.iadd, 1) := by decide +kernel
theorem dX12_strokes_112 : decode cX12_strokes 112 = .ok (.iconst 3, 1) := by decide +kernel
theorem dX12_strokes_113 : decode cX12_strokes 113 = .ok (.iload 6, 2) := by decide +kernel
theorem dX12_strokes_115 : decode cX12_strokes 115 = .ok (.imul, 1) := by decide +kernel
theorem dX12_strokes_116 : decode cX12_strokes 116 = .ok (.iadd, 1) := by decide +kernel
theorem dX12_strokes_117 : decode cX12_strokes 117 = .ok (.istore 7, 2) := by decide +kernel
theorem dX12_strokes_119 : decode cX12_strokes 119 = .ok (.iload 5, 2) := by decide +kernel
theorem dX12_strokes_121 : decode cX12_strokes 121 = .ok (.aload_n 0, 1) := by decide +kernel
theorem dX12_strokes_122 : decode cX12_strokes 122 = .ok (.aload_n 0, 1) := by decide +kernel
theorem dX12_strokes_123 : decode cX12_strokes 123 = .ok (.getfield 69, 3) := by decide +kernel
theorem dX12_strokes_126 : decode cX12_strokes 126 = .ok (.iload 7, 2) := by decide +kernel
theorem dX12_strokes_128 : decode cX12_strokes 128 = .ok (.iaload, 1) := by decide +kernel
theorem dX12_strokes_129 : decode cX12_strokes 129 = .ok (.aload_n 0, 1) := by decide +kernel
theorem dX12_strokes_130 : decode cX12_strokes 130 = .ok (.getfield 69, 3) := by decide +kernel
theorem dX12_strokes_133 : decode cX12_strokes 133 = .ok (.iload 7, 2) := by decide +kernel
theorem dX12_strokes_135 : decode cX12_strokes 135 = .ok (.iconst 1, 1) := by decide +kernel
theorem dX12_strokes_136 : decode cX12_strokes 136 = .ok (.iadd, 1) := by decide +kernel
theorem dX12_strokes_137 : decode cX12_strokes 137 = .ok (.iaload, 1) := by decide +kernel
theorem dX12_strokes_138 : decode cX12_strokes 138 = .ok (.aload_n 0, 1) := by decide +kernel
theorem dX12_strokes_139 : decode cX12_strokes 139 = .ok (.getfield 69, 3) := by decide +kernel
theorem dX12_strokes_142 : decode cX12_strokes 142 = .ok (.iload 7, 2) := by decide +kernel
theorem dX12_strokes_144 : decode cX12_strokes 144 = .ok (.iconst 2, 1) := by decide +kernel
theorem dX12_strokes_145 : decode cX12_strokes 145 = .ok (.iadd, 1) := by decide +kernel
theorem dX12_strokes_146 : decode cX12_strokes 146 = .ok (.iaload, 1) := by decide +kernel
theorem dX12_strokes_147 : decode cX12_strokes 147 = .ok (.invokevirtual 372, 3) := by decide +kernel
theorem dX12_strokes_150 : decode cX12_strokes 150 = .ok (.ifCond .lt 7, 3) := by decide +kernel
theorem dX12_strokes_153 : decode cX12_strokes 153 = .ok (.iconst 1, 1) := by decide +kernel
theorem dX12_strokes_154 : decode cX12_strokes 154 = .ok (.goto 4, 3) := by decide +kernel
theorem dX12_strokes_157 : decode cX12_strokes 157 = .ok (.iconst 0, 1) := by decide +kernel
theorem dX12_strokes_158 : decode cX12_strokes 158 = .ok (.iadd, 1) := by decide +kernel
theorem dX12_strokes_159 : decode cX12_strokes 159 = .ok (.istore 5, 2) := by decide +kernel
theorem dX12_strokes_161 : decode cX12_strokes 161 = .ok (.iinc 6 1, 3) := by decide +kernel
theorem dX12_strokes_164 : decode cX12_strokes 164 = .ok (.goto (-89), 3) := by decide +kernel
theorem dX12_strokes_167 : decode cX12_strokes 167 = .ok (.iload 5, 2) := by decide +kernel
theorem dX12_strokes_169 : decode cX12_strokes 169 = .ok (.ireturn, 1) := by decide +kernel
theorem dX12_over_0 : decode cX12_over 0 = .ok (.iload_n 0, 1) := by decide +kernel
theorem dX12_over_1 : decode cX12_over 1 = .ok (.ifCond .ne 7, 3) := by decide +kernel
theorem dX12_over_4 : decode cX12_over 4 = .ok (.iconst (-1), 1) := by decide +kernel
theorem dX12_over_5 : decode cX12_over 5 = .ok (.goto 27, 3) := by decide +kernel
theorem dX12_over_8 : decode cX12_over 8 = .ok (.iload_n 0, 1) := by decide +kernel
theorem dX12_over_9 : decode cX12_over 9 = .ok (.iconst 3, 1) := by decide +kernel
theorem dX12_over_10 : decode cX12_over 10 = .ok (.if_icmp .eq 8, 3) := by decide +kernel
theorem dX12_over_13 : decode cX12_over 13 = .ok (.iload_n 0, 1) := by decide +kernel
theorem dX12_over_14 : decode cX12_over 14 = .ok (.iconst 5, 1) := by decide +kernel
theorem dX12_over_15 : decode cX12_over 15 = .ok (.if_icmp .ne 7, 3) := by decide +kernel
theorem dX12_over_18 : decode cX12_over 18 = .ok (.iconst 1, 1) := by decide +kernel
theorem dX12_over_19 : decode cX12_over 19 = .ok (.goto 13, 3) := by decide +kernel
theorem dX12_over_22 : decode cX12_over 22 = .ok (.iload_n 0, 1) := by decide +kernel
theorem dX12_over_23 : decode cX12_over 23 = .ok (.iconst 4, 1) := by decide +kernel
theorem dX12_over_24 : decode cX12_over 24 = .ok (.if_icmp .ne 7, 3) := by decide +kernel
theorem dX12_over_27 : decode cX12_over 27 = .ok (.iconst 2, 1) := by decide +kernel
theorem dX12_over_28 : decode cX12_over 28 = .ok (.goto 4, 3) := by decide +kernel
theorem dX12_over_31 : decode cX12_over 31 = .ok (.iconst 0, 1) := by decide +kernel
theorem dX12_over_32 : decode cX12_over 32 = .ok (.ireturn, 1) := by decide +kernel
theorem dX12_taken_0 : decode cX12_taken 0 = .ok (.iload_n 2, 1) := by decide +kernel
theorem dX12_taken_1 : decode cX12_taken 1 = .ok (.i2l, 1) := by decide +kernel
theorem dX12_taken_2 : decode cX12_taken 2 = .ok (.lconst 0, 1) := by decide +kernel
theorem dX12_taken_3 : decode cX12_taken 3 = .ok (.ldc2_w 96, 3) := by decide +kernel
theorem dX12_taken_6 : decode cX12_taken 6 = .ok (.invokestatic 82, 3) := by decide +kernel
theorem dX12_taken_9 : decode cX12_taken 9 = .ok (.ifCond .ne 6, 3) := by decide +kernel
theorem dX12_taken_12 : decode cX12_taken 12 = .ok (.bipush (-2), 2) := by decide +kernel
theorem dX12_taken_14 : decode cX12_taken 14 = .ok (.ireturn, 1) := by decide +kernel
theorem dX12_taken_15 : decode cX12_taken 15 = .ok (.aload_n 0, 1) := by decide +kernel
theorem dX12_taken_16 : decode cX12_taken 16 = .ok (.iload_n 1, 1) := by decide +kernel
theorem dX12_taken_17 : decode cX12_taken 17 = .ok (.invokevirtual 98, 3) := by decide +kernel
theorem dX12_taken_20 : decode cX12_taken 20 = .ok (.ifCond .ne 6, 3) := by decide +kernel
theorem dX12_taken_23 : decode cX12_taken 23 = .ok (.bipush (-11), 2) := by decide +kernel
theorem dX12_taken_25 : decode cX12_taken 25 = .ok (.ireturn, 1) := by decide +kernel
theorem dX12_taken_26 : decode cX12_taken 26 = .ok (.aload_n 0, 1) := by decide +kernel
theorem dX12_taken_27 : decode cX12_taken 27 = .ok (.getfield 35, 3) := by decide +kernel
theorem dX12_taken_30 : decode cX12_taken 30 = .ok (.iload_n 1, 1) := by decide +kernel
theorem dX12_taken_31 : decode cX12_taken 31 = .ok (.iaload, 1) := by decide +kernel
theorem dX12_taken_32 : decode cX12_taken 32 = .ok (.istore_n 3, 1) := by decide +kernel
theorem dX12_taken_33 : decode cX12_taken 33 = .ok (.iload_n 3, 1) := by decide +kernel
theorem dX12_taken_34 : decode cX12_taken 34 = .ok (.iconst (-1), 1) := by decide +kernel
theorem dX12_taken_35 : decode cX12_taken 35 = .ok (.if_icmp .eq 16, 3) := by decide +kernel
theorem dX12_taken_38 : decode cX12_taken 38 = .ok (.iload_n 3, 1) := by decide +kernel
theorem dX12_taken_39 : decode cX12_taken 39 = .ok (.iload_n 2, 1) := by decide +kernel
theorem dX12_taken_40 : decode cX12_taken 40 = .ok (.if_icmp .eq 11, 3) := by decide +kernel
theorem dX12_taken_43 : decode cX12_taken 43 = .ok (.iload_n 3, 1) := by decide +kernel
theorem dX12_taken_44 : decode cX12_taken 44 = .ok (.invokestatic 375, 3) := by decide +kernel
theorem dX12_taken_47 : decode cX12_taken 47 = .ok (.istore_n 3, 1) := by decide +kernel
theorem dX12_taken_48 : decode cX12_taken 48 = .ok (.goto (-15), 3) := by decide +kernel
theorem dX12_taken_51 : decode cX12_taken 51 = .ok (.iload_n 3, 1) := by decide +kernel
theorem dX12_taken_52 : decode cX12_taken 52 = .ok (.iload_n 2, 1) := by decide +kernel
theorem dX12_taken_53 : decode cX12_taken 53 = .ok (.if_icmp .ne 12, 3) := by decide +kernel
theorem dX12_taken_56 : decode cX12_taken 56 = .ok (.aload_n 0, 1) := by decide +kernel
theorem dX12_taken_57 : decode cX12_taken 57 = .ok (.getfield 38, 3) := by decide +kernel
theorem dX12_taken_60 : decode cX12_taken 60 = .ok (.iload_n 1, 1) := by decide +kernel
theorem dX12_taken_61 : decode cX12_taken 61 = .ok (.iaload, 1) := by decide +kernel
theorem dX12_taken_62 : decode cX12_taken 62 = .ok (.goto 5, 3) := by decide +kernel
theorem dX12_taken_65 : decode cX12_taken 65 = .ok (.bipush (-13), 2) := by decide +kernel
theorem dX12_taken_67 : decode cX12_taken 67 = .ok (.ireturn, 1) := by decide +kernel
theorem dJ6_compare_7cf53_0 : decode cJ6_compare_7cf53 0 = .ok (.iload_n 0, 1) := by decide +kernel
theorem dJ6_compare_7cf53_1 : decode cJ6_compare_7cf53 1 = .ok (.iload_n 1, 1) := by decide +kernel
theorem dJ6_compare_7cf53_2 : decode cJ6_compare_7cf53 2 = .ok (.if_icmp .ge 7, 3) := by decide +kernel
theorem dJ6_compare_7cf53_5 : decode cJ6_compare_7cf53 5 = .ok (.iconst (-1), 1) := by decide +kernel
theorem dJ6_compare_7cf53_6 : decode cJ6_compare_7cf53 6 = .ok (.goto 13, 3) := by decide +kernel
theorem dJ6_compare_7cf53_9 : decode cJ6_compare_7cf53 9 = .ok (.iload_n 0, 1) := by decide +kernel
theorem dJ6_compare_7cf53_10 : decode cJ6_compare_7cf53 10 = .ok (.iload_n 1, 1) := by decide +kernel
theorem dJ6_compare_7cf53_11 : decode cJ6_compare_7cf53 11 = .ok (.if_icmp .ne 7, 3) := by decide +kernel
theorem dJ6_compare_7cf53_14 : decode cJ6_compare_7cf53 14 = .ok (.iconst 0, 1) := by decide +kernel
theorem dJ6_compare_7cf53_15 : decode cJ6_compare_7cf53 15 = .ok (.goto 4, 3) := by decide +kernel
theorem dJ6_compare_7cf53_18 : decode cJ6_compare_7cf53 18 = .ok (.iconst 1, 1) := by decide +kernel
theorem dJ6_compare_7cf53_19 : decode cJ6_compare_7cf53 19 = .ok (.ireturn, 1) := by decide +kernel
theorem dJ9_abs_0f7a4_0 : decode cJ9_abs_0f7a4 0 = .ok (.iload_n 0, 1) := by decide +kernel
theorem dJ9_abs_0f7a4_1 : decode cJ9_abs_0f7a4 1 = .ok (.ifCond .ge 8, 3) := by decide +kernel
theorem dJ9_abs_0f7a4_4 : decode cJ9_abs_0f7a4 4 = .ok (.iload_n 0, 1) := by decide +kernel
theorem dJ9_abs_0f7a4_5 : decode cJ9_abs_0f7a4 5 = .ok (.ineg, 1) := by decide +kernel
theorem dJ9_abs_0f7a4_6 : decode cJ9_abs_0f7a4 6 = .ok (.goto 4, 3) := by decide +kernel
theorem dJ9_abs_0f7a4_9 : decode cJ9_abs_0f7a4 9 = .ok (.iload_n 0, 1) := by decide +kernel
theorem dJ9_abs_0f7a4_10 : decode cJ9_abs_0f7a4 10 = .ok (.ireturn, 1) := by decide +kernel
theorem dJ9_max_7cf53_0 : decode cJ9_max_7cf53 0 = .ok (.iload_n 0, 1) := by decide +kernel
theorem dJ9_max_7cf53_1 : decode cJ9_max_7cf53 1 = .ok (.iload_n 1, 1) := by decide +kernel
theorem dJ9_max_7cf53_2 : decode cJ9_max_7cf53 2 = .ok (.if_icmp .lt 7, 3) := by decide +kernel
theorem dJ9_max_7cf53_5 : decode cJ9_max_7cf53 5 = .ok (.iload_n 0, 1) := by decide +kernel
theorem dJ9_max_7cf53_6 : decode cJ9_max_7cf53 6 = .ok (.goto 4, 3) := by decide +kernel
theorem dJ9_max_7cf53_9 : decode cJ9_max_7cf53 9 = .ok (.iload_n 1, 1) := by decide +kernel
theorem dJ9_max_7cf53_10 : decode cJ9_max_7cf53 10 = .ok (.ireturn, 1) := by decide +kernel
theorem dJ9_min_7cf53_0 : decode cJ9_min_7cf53 0 = .ok (.iload_n 0, 1) := by decide +kernel
theorem dJ9_min_7cf53_1 : decode cJ9_min_7cf53 1 = .ok (.iload_n 1, 1) := by decide +kernel
theorem dJ9_min_7cf53_2 : decode cJ9_min_7cf53 2 = .ok (.if_icmp .gt 7, 3) := by decide +kernel
theorem dJ9_min_7cf53_5 : decode cJ9_min_7cf53 5 = .ok (.iload_n 0, 1) := by decide +kernel
theorem dJ9_min_7cf53_6 : decode cJ9_min_7cf53 6 = .ok (.goto 4, 3) := by decide +kernel
theorem dJ9_min_7cf53_9 : decode cJ9_min_7cf53 9 = .ok (.iload_n 1, 1) := by decide +kernel
theorem dJ9_min_7cf53_10 : decode cJ9_min_7cf53 10 = .ok (.ireturn, 1) := by decide +kernel
theorem dJ0_length_8abf5_0 : decode cJ0_length_8abf5 0 = .ok (.aload_n 0, 1) := by decide +kernel
theorem dJ0_length_8abf5_1 : decode cJ0_length_8abf5 1 = .ok (.getfield 9, 3) := by decide +kernel
theorem dJ0_length_8abf5_4 : decode cJ0_length_8abf5 4 = .ok (.arraylength, 1) := by decide +kernel
theorem dJ0_length_8abf5_5 : decode cJ0_length_8abf5 5 = .ok (.aload_n 0, 1) := by decide +kernel
theorem dJ0_length_8abf5_6 : decode cJ0_length_8abf5 6 = .ok (.invokevirtual 335, 3) := by decide +kernel
theorem dJ0_length_8abf5_9 : decode cJ0_length_8abf5 9 = .ok (.ishr, 1) := by decide +kernel
theorem dJ0_length_8abf5_10 : decode cJ0_length_8abf5 10 = .ok (.ireturn, 1) := by decide +kernel
theorem dJ0_charAt_5068e_0 : decode cJ0_charAt_5068e 0 = .ok (.aload_n 0, 1) := by decide +kernel
theorem dJ0_charAt_5068e_1 : decode cJ0_charAt_5068e 1 = .ok (.invokevirtual 492, 3) := by decide +kernel
theorem dJ0_charAt_5068e_4 : decode cJ0_charAt_5068e 4 = .ok (.ifCond .eq 12, 3) := by decide +kernel
theorem dJ0_charAt_5068e_7 : decode cJ0_charAt_5068e 7 = .ok (.aload_n 0, 1) := by decide +kernel
theorem dJ0_charAt_5068e_8 : decode cJ0_charAt_5068e 8 = .ok (.getfield 9, 3) := by decide +kernel
theorem dJ0_charAt_5068e_11 : decode cJ0_charAt_5068e 11 = .ok (.iload_n 1, 1) := by decide +kernel
theorem dJ0_charAt_5068e_12 : decode cJ0_charAt_5068e 12 = .ok (.invokestatic 495, 3) := by decide +kernel
theorem dJ0_charAt_5068e_15 : decode cJ0_charAt_5068e 15 = .ok (.ireturn, 1) := by decide +kernel
theorem dJ0_charAt_5068e_16 : decode cJ0_charAt_5068e 16 = .ok (.aload_n 0, 1) := by decide +kernel
theorem dJ0_charAt_5068e_17 : decode cJ0_charAt_5068e 17 = .ok (.getfield 9, 3) := by decide +kernel
theorem dJ0_charAt_5068e_20 : decode cJ0_charAt_5068e 20 = .ok (.iload_n 1, 1) := by decide +kernel
theorem dJ0_charAt_5068e_21 : decode cJ0_charAt_5068e 21 = .ok (.invokestatic 498, 3) := by decide +kernel
theorem dJ0_charAt_5068e_24 : decode cJ0_charAt_5068e 24 = .ok (.ireturn, 1) := by decide +kernel
theorem dJ0_coder_7d493_0 : decode cJ0_coder_7d493 0 = .ok (.getstatic 38, 3) := by decide +kernel
theorem dJ0_coder_7d493_3 : decode cJ0_coder_7d493 3 = .ok (.ifCond .eq 10, 3) := by decide +kernel
theorem dJ0_coder_7d493_6 : decode cJ0_coder_7d493 6 = .ok (.aload_n 0, 1) := by decide +kernel
theorem dJ0_coder_7d493_7 : decode cJ0_coder_7d493 7 = .ok (.getfield 15, 3) := by decide +kernel
theorem dJ0_coder_7d493_10 : decode cJ0_coder_7d493 10 = .ok (.goto 4, 3) := by decide +kernel
theorem dJ0_coder_7d493_13 : decode cJ0_coder_7d493 13 = .ok (.iconst 1, 1) := by decide +kernel
theorem dJ0_coder_7d493_14 : decode cJ0_coder_7d493 14 = .ok (.ireturn, 1) := by decide +kernel
theorem dJ0_isLatin1_aae02_0 : decode cJ0_isLatin1_aae02 0 = .ok (.getstatic 38, 3) := by decide +kernel
theorem dJ0_isLatin1_aae02_3 : decode cJ0_isLatin1_aae02 3 = .ok (.ifCond .eq 14, 3) := by decide +kernel
theorem dJ0_isLatin1_aae02_6 : decode cJ0_isLatin1_aae02 6 = .ok (.aload_n 0, 1) := by decide +kernel
theorem dJ0_isLatin1_aae02_7 : decode cJ0_isLatin1_aae02 7 = .ok (.getfield 15, 3) := by decide +kernel
theorem dJ0_isLatin1_aae02_10 : decode cJ0_isLatin1_aae02 10 = .ok (.ifCond .ne 7, 3) := by decide +kernel
theorem dJ0_isLatin1_aae02_13 : decode cJ0_isLatin1_aae02 13 = .ok (.iconst 1, 1) := by decide +kernel
theorem dJ0_isLatin1_aae02_14 : decode cJ0_isLatin1_aae02 14 = .ok (.goto 4, 3) := by decide +kernel
theorem dJ0_isLatin1_aae02_17 : decode cJ0_isLatin1_aae02 17 = .ok (.iconst 0, 1) := by decide +kernel
theorem dJ0_isLatin1_aae02_18 : decode cJ0_isLatin1_aae02 18 = .ok (.ireturn, 1) := by decide +kernel
theorem dJ0_checkIndex_df160_0 : decode cJ0_checkIndex_df160 0 = .ok (.iload_n 0, 1) := by decide +kernel
theorem dJ0_checkIndex_df160_1 : decode cJ0_checkIndex_df160 1 = .ok (.iload_n 1, 1) := by decide +kernel
theorem dJ0_checkIndex_df160_2 : decode cJ0_checkIndex_df160 2 = .ok (.getstatic 1053, 3) := by decide +kernel
theorem dJ0_checkIndex_df160_5 : decode cJ0_checkIndex_df160 5 = .ok (.invokestatic 1059, 3) := by decide +kernel
theorem dJ0_checkIndex_df160_8 : decode cJ0_checkIndex_df160 8 = .ok (.pop, 1) := by decide +kernel
theorem dJ0_checkIndex_df160_9 : decode cJ0_checkIndex_df160 9 = .ok (.return_, 1) := by decide +kernel
theorem dJ1_charAt_3b067_0 : decode cJ1_charAt_3b067 0 = .ok (.iload_n 1, 1) := by decide +kernel
theorem dJ1_charAt_3b067_1 : decode cJ1_charAt_3b067 1 = .ok (.aload_n 0, 1) := by decide +kernel
theorem dJ1_charAt_3b067_2 : decode cJ1_charAt_3b067 2 = .ok (.arraylength, 1) := by decide +kernel
theorem dJ1_charAt_3b067_3 : decode cJ1_charAt_3b067 3 = .ok (.invokestatic 9, 3) := by decide +kernel
theorem dJ1_charAt_3b067_6 : decode cJ1_charAt_3b067 6 = .ok (.aload_n 0, 1) := by decide +kernel
theorem dJ1_charAt_3b067_7 : decode cJ1_charAt_3b067 7 = .ok (.iload_n 1, 1) := by decide +kernel
theorem dJ1_charAt_3b067_8 : decode cJ1_charAt_3b067 8 = .ok (.baload, 1) := by decide +kernel
theorem dJ1_charAt_3b067_9 : decode cJ1_charAt_3b067 9 = .ok (.sipush 255, 3) := by decide +kernel
theorem dJ1_charAt_3b067_12 : decode cJ1_charAt_3b067 12 = .ok (.iand, 1) := by decide +kernel
theorem dJ1_charAt_3b067_13 : decode cJ1_charAt_3b067 13 = .ok (.i2c, 1) := by decide +kernel
theorem dJ1_charAt_3b067_14 : decode cJ1_charAt_3b067 14 = .ok (.ireturn, 1) := by decide +kernel
theorem dJ2_getChar_3b067_0 : decode cJ2_getChar_3b067 0 = .ok (.getstatic 44, 3) := by decide +kernel
theorem dJ2_getChar_3b067_3 : decode cJ2_getChar_3b067 3 = .ok (.ifCond .ne 25, 3) := by decide +kernel
theorem dJ2_getChar_3b067_6 : decode cJ2_getChar_3b067 6 = .ok (.iload_n 1, 1) := by decide +kernel
theorem dJ2_getChar_3b067_7 : decode cJ2_getChar_3b067 7 = .ok (.ifCond .lt 11, 3) := by decide +kernel
theorem dJ2_getChar_3b067_10 : decode cJ2_getChar_3b067 10 = .ok (.iload_n 1, 1) := by decide +kernel
theorem dJ2_getChar_3b067_11 : decode cJ2_getChar_3b067 11 = .ok (.aload_n 0, 1) := by decide +kernel
theorem dJ2_getChar_3b067_12 : decode cJ2_getChar_3b067 12 = .ok (.invokestatic 48, 3) := by decide +kernel
theorem dJ2_getChar_3b067_15 : decode cJ2_getChar_3b067 15 = .ok (.if_icmp .lt 13, 3) := by decide +kernel
theorem dJ2_getChar_3b067_18 : decode cJ2_getChar_3b067 18 = .ok (.new 52, 3) := by decide +kernel
theorem dJ2_getChar_3b067_21 : decode cJ2_getChar_3b067 21 = .ok (.dup, 1) := by decide +kernel
theorem dJ2_getChar_3b067_22 : decode cJ2_getChar_3b067 22 = .ok (.ldc 54, 2) := by decide +kernel
theorem dJ2_getChar_3b067_24 : decode cJ2_getChar_3b067 24 = .ok (.invokespecial 56, 3) := by decide +kernel
theorem dJ2_getChar_3b067_27 : decode cJ2_getChar_3b067 27 = .ok (.athrow, 1) := by decide +kernel
theorem dJ2_getChar_3b067_28 : decode cJ2_getChar_3b067 28 = .ok (.iload_n 1, 1) := by decide +kernel
theorem dJ2_getChar_3b067_29 : decode cJ2_getChar_3b067 29 = .ok (.iconst 1, 1) := by decide +kernel
theorem dJ2_getChar_3b067_30 : decode cJ2_getChar_3b067 30 = .ok (.ishl, 1) := by decide +kernel
theorem dJ2_getChar_3b067_31 : decode cJ2_getChar_3b067 31 = .ok (.istore_n 1, 1) := by decide +kernel
theorem dJ2_getChar_3b067_32 : decode cJ2_getChar_3b067 32 = .ok (.aload_n 0, 1) := by decide +kernel
theorem dJ2_getChar_3b067_33 : decode cJ2_getChar_3b067 33 = .ok (.iload_n 1, 1) := by decide +kernel
theorem dJ2_getChar_3b067_34 : decode cJ2_getChar_3b067 34 = .ok (.iinc 1 1, 3) := by decide +kernel
theorem dJ2_getChar_3b067_37 : decode cJ2_getChar_3b067 37 = .ok (.baload, 1) := by decide +kernel
theorem dJ2_getChar_3b067_38 : decode cJ2_getChar_3b067 38 = .ok (.sipush 255, 3) := by decide +kernel
theorem dJ2_getChar_3b067_41 : decode cJ2_getChar_3b067 41 = .ok (.iand, 1) := by decide +kernel
theorem dJ2_getChar_3b067_42 : decode cJ2_getChar_3b067 42 = .ok (.getstatic 59, 3) := by decide +kernel
theorem dJ2_getChar_3b067_45 : decode cJ2_getChar_3b067 45 = .ok (.ishl, 1) := by decide +kernel
theorem dJ2_getChar_3b067_46 : decode cJ2_getChar_3b067 46 = .ok (.aload_n 0, 1) := by decide +kernel
theorem dJ2_getChar_3b067_47 : decode cJ2_getChar_3b067 47 = .ok (.iload_n 1, 1) := by decide +kernel
theorem dJ2_getChar_3b067_48 : decode cJ2_getChar_3b067 48 = .ok (.baload, 1) := by decide +kernel
theorem dJ2_getChar_3b067_49 : decode cJ2_getChar_3b067 49 = .ok (.sipush 255, 3) := by decide +kernel
theorem dJ2_getChar_3b067_52 : decode cJ2_getChar_3b067 52 = .ok (.iand, 1) := by decide +kernel
theorem dJ2_getChar_3b067_53 : decode cJ2_getChar_3b067 53 = .ok (.getstatic 63, 3) := by decide +kernel
theorem dJ2_getChar_3b067_56 : decode cJ2_getChar_3b067 56 = .ok (.ishl, 1) := by decide +kernel
theorem dJ2_getChar_3b067_57 : decode cJ2_getChar_3b067 57 = .ok (.ior, 1) := by decide +kernel
theorem dJ2_getChar_3b067_58 : decode cJ2_getChar_3b067 58 = .ok (.i2c, 1) := by decide +kernel
theorem dJ2_getChar_3b067_59 : decode cJ2_getChar_3b067 59 = .ok (.ireturn, 1) := by decide +kernel
theorem dJ2_length_9d52b_0 : decode cJ2_length_9d52b 0 = .ok (.aload_n 0, 1) := by decide +kernel
theorem dJ2_length_9d52b_1 : decode cJ2_length_9d52b 1 = .ok (.arraylength, 1) := by decide +kernel
theorem dJ2_length_9d52b_2 : decode cJ2_length_9d52b 2 = .ok (.iconst 1, 1) := by decide +kernel
theorem dJ2_length_9d52b_3 : decode cJ2_length_9d52b 3 = .ok (.ishr, 1) := by decide +kernel
theorem dJ2_length_9d52b_4 : decode cJ2_length_9d52b 4 = .ok (.ireturn, 1) := by decide +kernel
theorem dJ2_charAt_3b067_0 : decode cJ2_charAt_3b067 0 = .ok (.iload_n 1, 1) := by decide +kernel
theorem dJ2_charAt_3b067_1 : decode cJ2_charAt_3b067 1 = .ok (.aload_n 0, 1) := by decide +kernel
theorem dJ2_charAt_3b067_2 : decode cJ2_charAt_3b067 2 = .ok (.invokestatic 67, 3) := by decide +kernel
theorem dJ2_charAt_3b067_5 : decode cJ2_charAt_3b067 5 = .ok (.aload_n 0, 1) := by decide +kernel
theorem dJ2_charAt_3b067_6 : decode cJ2_charAt_3b067 6 = .ok (.iload_n 1, 1) := by decide +kernel
theorem dJ2_charAt_3b067_7 : decode cJ2_charAt_3b067 7 = .ok (.invokestatic 71, 3) := by decide +kernel
theorem dJ2_charAt_3b067_10 : decode cJ2_charAt_3b067 10 = .ok (.ireturn, 1) := by decide +kernel
theorem dJ2_checkIndex_2214a_0 : decode cJ2_checkIndex_2214a 0 = .ok (.iload_n 0, 1) := by decide +kernel
theorem dJ2_checkIndex_2214a_1 : decode cJ2_checkIndex_2214a 1 = .ok (.aload_n 1, 1) := by decide +kernel
theorem dJ2_checkIndex_2214a_2 : decode cJ2_checkIndex_2214a 2 = .ok (.invokestatic 48, 3) := by decide +kernel
theorem dJ2_checkIndex_2214a_5 : decode cJ2_checkIndex_2214a 5 = .ok (.invokestatic 414, 3) := by decide +kernel
theorem dJ2_checkIndex_2214a_8 : decode cJ2_checkIndex_2214a 8 = .ok (.return_, 1) := by decide +kernel
theorem dJ3_checkIndex_8e157_0 : decode cJ3_checkIndex_8e157 0 = .ok (.iload_n 0, 1) := by decide +kernel
theorem dJ3_checkIndex_8e157_1 : decode cJ3_checkIndex_8e157 1 = .ok (.ifCond .lt 8, 3) := by decide +kernel
theorem dJ3_checkIndex_8e157_4 : decode cJ3_checkIndex_8e157 4 = .ok (.iload_n 0, 1) := by decide +kernel
theorem dJ3_checkIndex_8e157_5 : decode cJ3_checkIndex_8e157 5 = .ok (.iload_n 1, 1) := by decide +kernel
theorem dJ3_checkIndex_8e157_6 : decode cJ3_checkIndex_8e157 6 = .ok (.if_icmp .lt 10, 3) := by decide +kernel
theorem dJ3_checkIndex_8e157_9 : decode cJ3_checkIndex_8e157 9 = .ok (.aload_n 2, 1) := by decide +kernel
theorem dJ3_checkIndex_8e157_10 : decode cJ3_checkIndex_8e157 10 = .ok (.iload_n 0, 1) := by decide +kernel
theorem dJ3_checkIndex_8e157_11 : decode cJ3_checkIndex_8e157 11 = .ok (.iload_n 1, 1) := by decide +kernel
theorem dJ3_checkIndex_8e157_12 : decode cJ3_checkIndex_8e157 12 = .ok (.invokestatic 95, 3) := by decide +kernel
theorem dJ3_checkIndex_8e157_15 : decode cJ3_checkIndex_8e157 15 = .ok (.athrow, 1) := by decide +kernel
theorem dJ3_checkIndex_8e157_16 : decode cJ3_checkIndex_8e157 16 = .ok (.iload_n 0, 1) := by decide +kernel
theorem dJ3_checkIndex_8e157_17 : decode cJ3_checkIndex_8e157 17 = .ok (.ireturn, 1) := by decide +kernel
theorem dL_law_0 : decode cL_law 0 = .ok (.new 7, 3) := by decide +kernel
theorem dL_law_3 : decode cL_law 3 = .ok (.dup, 1) := by decide +kernel
theorem dL_law_4 : decode cL_law 4 = .ok (.invokespecial 9, 3) := by decide +kernel
theorem dL_law_7 : decode cL_law 7 = .ok (.astore_n 1, 1) := by decide +kernel
theorem dL_law_8 : decode cL_law 8 = .ok (.new 10, 3) := by decide +kernel
theorem dL_law_11 : decode cL_law 11 = .ok (.dup, 1) := by decide +kernel
theorem dL_law_12 : decode cL_law 12 = .ok (.invokespecial 12, 3) := by decide +kernel
theorem dL_law_15 : decode cL_law 15 = .ok (.astore_n 2, 1) := by decide +kernel
theorem dL_law_16 : decode cL_law 16 = .ok (.iconst 0, 1) := by decide +kernel
theorem dL_law_17 : decode cL_law 17 = .ok (.istore_n 3, 1) := by decide +kernel
theorem dL_law_18 : decode cL_law 18 = .ok (.iload_n 3, 1) := by decide +kernel
theorem dL_law_19 : decode cL_law 19 = .ok (.aload_n 0, 1) := by decide +kernel
theorem dL_law_20 : decode cL_law 20 = .ok (.arraylength, 1) := by decide +kernel
theorem dL_law_21 : decode cL_law 21 = .ok (.bipush 6, 2) := by decide +kernel
theorem dL_law_23 : decode cL_law 23 = .ok (.isub, 1) := by decide +kernel
theorem dL_law_24 : decode cL_law 24 = .ok (.if_icmp .gt 1085, 3) := by decide +kernel
theorem dL_law_27 : decode cL_law 27 = .ok (.aload_n 0, 1) := by decide +kernel
theorem dL_law_28 : decode cL_law 28 = .ok (.iload_n 3, 1) := by decide +kernel
theorem dL_law_29 : decode cL_law 29 = .ok (.iaload, 1) := by decide +kernel
theorem dL_law_30 : decode cL_law 30 = .ok (.bipush 31, 2) := by decide +kernel
theorem dL_law_32 : decode cL_law 32 = .ok (.iand, 1) := by decide +kernel
theorem dL_law_33 : decode cL_law 33 = .ok (.tableswitch 1070 0 28 #[131, 174, 217, 250, 293, 326, 349, 362, 385, 418, 441, 465, 508, 531, 564, 587, 610, 643, 686, 719, 742, 786, 799, 812, 835, 878, 921, 984, 1037], 131) := by decide +kernel
theorem dL_law_164 : decode cL_law 164 = .ok (.aload_n 1, 1) := by decide +kernel
theorem dL_law_165 : decode cL_law 165 = .ok (.aload_n 0, 1) := by decide +kernel
theorem dL_law_166 : decode cL_law 166 = .ok (.iload_n 3, 1) := by decide +kernel
theorem dL_law_167 : decode cL_law 167 = .ok (.iconst 1, 1) := by decide +kernel
theorem dL_law_168 : decode cL_law 168 = .ok (.iadd, 1) := by decide +kernel
theorem dL_law_169 : decode cL_law 169 = .ok (.iaload, 1) := by decide +kernel
theorem dL_law_170 : decode cL_law 170 = .ok (.aload_n 0, 1) := by decide +kernel
theorem dL_law_171 : decode cL_law 171 = .ok (.iload_n 3, 1) := by decide +kernel
theorem dL_law_172 : decode cL_law 172 = .ok (.iconst 2, 1) := by decide +kernel
theorem dL_law_173 : decode cL_law 173 = .ok (.iadd, 1) := by decide +kernel
theorem dL_law_174 : decode cL_law 174 = .ok (.iaload, 1) := by decide +kernel
theorem dL_law_175 : decode cL_law 175 = .ok (.aload_n 0, 1) := by decide +kernel
theorem dL_law_176 : decode cL_law 176 = .ok (.iload_n 3, 1) := by decide +kernel
theorem dL_law_177 : decode cL_law 177 = .ok (.iconst 3, 1) := by decide +kernel
theorem dL_law_178 : decode cL_law 178 = .ok (.iadd, 1) := by decide +kernel
theorem dL_law_179 : decode cL_law 179 = .ok (.iaload, 1) := by decide +kernel
theorem dL_law_180 : decode cL_law 180 = .ok (.invokevirtual 13, 3) := by decide +kernel
theorem dL_law_183 : decode cL_law 183 = .ok (.aload_n 2, 1) := by decide +kernel
theorem dL_law_184 : decode cL_law 184 = .ok (.aload_n 0, 1) := by decide +kernel
theorem dL_law_185 : decode cL_law 185 = .ok (.iload_n 3, 1) := by decide +kernel
theorem dL_law_186 : decode cL_law 186 = .ok (.iconst 1, 1) := by decide +kernel
theorem dL_law_187 : decode cL_law 187 = .ok (.iadd, 1) := by decide +kernel
theorem dL_law_188 : decode cL_law 188 = .ok (.iaload, 1) := by decide +kernel
theorem dL_law_189 : decode cL_law 189 = .ok (.aload_n 0, 1) := by decide +kernel
theorem dL_law_190 : decode cL_law 190 = .ok (.iload_n 3, 1) := by decide +kernel
theorem dL_law_191 : decode cL_law 191 = .ok (.iconst 2, 1) := by decide +kernel
theorem dL_law_192 : decode cL_law 192 = .ok (.iadd, 1) := by decide +kernel
theorem dL_law_193 : decode cL_law 193 = .ok (.iaload, 1) := by decide +kernel
theorem dL_law_194 : decode cL_law 194 = .ok (.aload_n 0, 1) := by decide +kernel
theorem dL_law_195 : decode cL_law 195 = .ok (.iload_n 3, 1) := by decide +kernel
theorem dL_law_196 : decode cL_law 196 = .ok (.iconst 3, 1) := by decide +kernel
theorem dL_law_197 : decode cL_law 197 = .ok (.iadd, 1) := by decide +kernel
theorem dL_law_198 : decode cL_law 198 = .ok (.iaload, 1) := by decide +kernel
theorem dL_law_199 : decode cL_law 199 = .ok (.invokevirtual 17, 3) := by decide +kernel
theorem dL_law_202 : decode cL_law 202 = .ok (.if_icmp .eq 901, 3) := by decide +kernel
theorem dL_law_205 : decode cL_law 205 = .ok (.iconst 0, 1) := by decide +kernel
theorem dL_law_206 : decode cL_law 206 = .ok (.ireturn, 1) := by decide +kernel
theorem dL_law_207 : decode cL_law 207 = .ok (.aload_n 1, 1) := by decide +kernel
theorem dL_law_208 : decode cL_law 208 = .ok (.aload_n 0, 1) := by decide +kernel
theorem dL_law_209 : decode cL_law 209 = .ok (.iload_n 3, 1) := by decide +kernel
theorem dL_law_210 : decode cL_law 210 = .ok (.iconst 1, 1) := by decide +kernel
theorem dL_law_211 : decode cL_law 211 = .ok (.iadd, 1) := by decide +kernel
theorem dL_law_212 : decode cL_law 212 = .ok (.iaload, 1) := by decide +kernel
theorem dL_law_213 : decode cL_law 213 = .ok (.aload_n 0, 1) := by decide +kernel
theorem dL_law_214 : decode cL_law 214 = .ok (.iload_n 3, 1) := by decide +kernel
theorem dL_law_215 : decode cL_law 215 = .ok (.iconst 2, 1) := by decide +kernel
theorem dL_law_216 : decode cL_law 216 = .ok (.iadd, 1) := by decide +kernel
theorem dL_law_217 : decode cL_law 217 = .ok (.iaload, 1) := by decide +kernel
theorem dL_law_218 : decode cL_law 218 = .ok (.aload_n 0, 1) := by decide +kernel
theorem dL_law_219 : decode cL_law 219 = .ok (.iload_n 3, 1) := by decide +kernel
theorem dL_law_220 : decode cL_law 220 = .ok (.iconst 3, 1) := by decide +kernel
theorem dL_law_221 : decode cL_law 221 = .ok (.iadd, 1) := by decide +kernel
theorem dL_law_222 : decode cL_law 222 = .ok (.iaload, 1) := by decide +kernel
theorem dL_law_223 : decode cL_law 223 = .ok (.invokevirtual 18, 3) := by decide +kernel
theorem dL_law_226 : decode cL_law 226 = .ok (.aload_n 2, 1) := by decide +kernel
theorem dL_law_227 : decode cL_law 227 = .ok (.aload_n 0, 1) := by decide +kernel
theorem dL_law_228 : decode cL_law 228 = .ok (.iload_n 3, 1) := by decide +kernel
theorem dL_law_229 : decode cL_law 229 = .ok (.iconst 1, 1) := by decide +kernel
theorem dL_law_230 : decode cL_law 230 = .ok (.iadd, 1) := by decide +kernel
theorem dL_law_231 : decode cL_law 231 = .ok (.iaload, 1) := by decide +kernel
theorem dL_law_232 : decode cL_law 232 = .ok (.aload_n 0, 1) := by decide +kernel
theorem dL_law_233 : decode cL_law 233 = .ok (.iload_n 3, 1) := by decide +kernel
theorem dL_law_234 : decode cL_law 234 = .ok (.iconst 2, 1) := by decide +kernel
theorem dL_law_235 : decode cL_law 235 = .ok (.iadd, 1) := by decide +kernel
theorem dL_law_236 : decode cL_law 236 = .ok (.iaload, 1) := by decide +kernel
theorem dL_law_237 : decode cL_law 237 = .ok (.aload_n 0, 1) := by decide +kernel
theorem dL_law_238 : decode cL_law 238 = .ok (.iload_n 3, 1) := by decide +kernel
theorem dL_law_239 : decode cL_law 239 = .ok (.iconst 3, 1) := by decide +kernel
theorem dL_law_240 : decode cL_law 240 = .ok (.iadd, 1) := by decide +kernel
theorem dL_law_241 : decode cL_law 241 = .ok (.iaload, 1) := by decide +kernel
theorem dL_law_242 : decode cL_law 242 = .ok (.invokevirtual 21, 3) := by decide +kernel
theorem dL_law_245 : decode cL_law 245 = .ok (.if_icmp .eq 858, 3) := by decide +kernel
theorem dL_law_248 : decode cL_law 248 = .ok (.iconst 0, 1) := by decide +kernel
theorem dL_law_249 : decode cL_law 249 = .ok (.ireturn, 1) := by decide +kernel
theorem dL_law_250 : decode cL_law 250 = .ok (.aload_n 1, 1) := by decide +kernel
theorem dL_law_251 : decode cL_law 251 = .ok (.aload_n 0, 1) := by decide +kernel
theorem dL_law_252 : decode cL_law 252 = .ok (.iload_n 3, 1) := by decide +kernel
theorem dL_law_253 : decode cL_law 253 = .ok (.iconst 1, 1) := by decide +kernel
theorem dL_law_254 : decode cL_law 254 = .ok (.iadd, 1) := by decide +kernel
theorem dL_law_255 : decode cL_law 255 = .ok (.iaload, 1) := by decide +kernel
theorem dL_law_256 : decode cL_law 256 = .ok (.aload_n 0, 1) := by decide +kernel
theorem dL_law_257 : decode cL_law 257 = .ok (.iload_n 3, 1) := by decide +kernel
theorem dL_law_258 : decode cL_law 258 = .ok (.iconst 2, 1) := by decide +kernel
theorem dL_law_259 : decode cL_law 259 = .ok (.iadd, 1) := by decide +kernel
theorem dL_law_260 : decode cL_law 260 = .ok (.iaload, 1) := by decide +kernel
theorem dL_law_261 : decode cL_law 261 = .ok (.invokevirtual 22, 3) := by decide +kernel
theorem dL_law_264 : decode cL_law 264 = .ok (.aload_n 2, 1) := by decide +kernel
theorem dL_law_265 : decode cL_law 265 = .ok (.aload_n 0, 1) := by decide +kernel
theorem dL_law_266 : decode cL_law 266 = .ok (.iload_n 3, 1) := by decide +kernel
theorem dL_law_267 : decode cL_law 267 = .ok (.iconst 1, 1) := by decide +kernel
theorem dL_law_268 : decode cL_law 268 = .ok (.iadd, 1) := by decide +kernel
theorem dL_law_269 : decode cL_law 269 = .ok (.iaload, 1) := by decide +kernel
theorem dL_law_270 : decode cL_law 270 = .ok (.aload_n 0, 1) := by decide +kernel
theorem dL_law_271 : decode cL_law 271 = .ok (.iload_n 3, 1) := by decide +kernel
theorem dL_law_272 : decode cL_law 272 = .ok (.iconst 2, 1) := by decide +kernel
theorem dL_law_273 : decode cL_law 273 = .ok (.iadd, 1) := by decide +kernel
theorem dL_law_274 : decode cL_law 274 = .ok (.iaload, 1) := by decide +kernel
theorem dL_law_275 : decode cL_law 275 = .ok (.invokevirtual 26, 3) := by decide +kernel
theorem dL_law_278 : decode cL_law 278 = .ok (.if_icmp .eq 825, 3) := by decide +kernel
theorem dL_law_281 : decode cL_law 281 = .ok (.iconst 0, 1) := by decide +kernel
theorem dL_law_282 : decode cL_law 282 = .ok (.ireturn, 1) := by decide +kernel
theorem dL_law_283 : decode cL_law 283 = .ok (.aload_n 1, 1) := by decide +kernel
theorem dL_law_284 : decode cL_law 284 = .ok (.aload_n 0, 1) := by decide +kernel
theorem dL_law_285 : decode cL_law 285 = .ok (.iload_n 3, 1) := by decide +kernel
theorem dL_law_286 : decode cL_law 286 = .ok (.iconst 1, 1) := by decide +kernel
theorem dL_law_287 : decode cL_law 287 = .ok (.iadd, 1) := by decide +kernel
theorem dL_law_288 : decode cL_law 288 = .ok (.iaload, 1) := by decide +kernel
theorem dL_law_289 : decode cL_law 289 = .ok (.aload_n 0, 1) := by decide +kernel
theorem dL_law_290 : decode cL_law 290 = .ok (.iload_n 3, 1) := by decide +kernel
theorem dL_law_291 : decode cL_law 291 = .ok (.iconst 2, 1) := by decide +kernel
theorem dL_law_292 : decode cL_law 292 = .ok (.iadd, 1) := by decide +kernel
theorem dL_law_293 : decode cL_law 293 = .ok (.iaload, 1) := by decide +kernel
theorem dL_law_294 : decode cL_law 294 = .ok (.aload_n 0, 1) := by decide +kernel
theorem dL_law_295 : decode cL_law 295 = .ok (.iload_n 3, 1) := by decide +kernel
theorem dL_law_296 : decode cL_law 296 = .ok (.iconst 3, 1) := by decide +kernel
theorem dL_law_297 : decode cL_law 297 = .ok (.iadd, 1) := by decide +kernel
theorem dL_law_298 : decode cL_law 298 = .ok (.iaload, 1) := by decide +kernel
theorem dL_law_299 : decode cL_law 299 = .ok (.invokevirtual 27, 3) := by decide +kernel
theorem dL_law_302 : decode cL_law 302 = .ok (.aload_n 2, 1) := by decide +kernel
theorem dL_law_303 : decode cL_law 303 = .ok (.aload_n 0, 1) := by decide +kernel
theorem dL_law_304 : decode cL_law 304 = .ok (.iload_n 3, 1) := by decide +kernel
theorem dL_law_305 : decode cL_law 305 = .ok (.iconst 1, 1) := by decide +kernel
theorem dL_law_306 : decode cL_law 306 = .ok (.iadd, 1) := by decide +kernel
theorem dL_law_307 : decode cL_law 307 = .ok (.iaload, 1) := by decide +kernel
theorem dL_law_308 : decode cL_law 308 = .ok (.aload_n 0, 1) := by decide +kernel
theorem dL_law_309 : decode cL_law 309 = .ok (.iload_n 3, 1) := by decide +kernel
theorem dL_law_310 : decode cL_law 310 = .ok (.iconst 2, 1) := by decide +kernel
theorem dL_law_311 : decode cL_law 311 = .ok (.iadd, 1) := by decide +kernel
theorem dL_law_312 : decode cL_law 312 = .ok (.iaload, 1) := by decide +kernel
theorem dL_law_313 : decode cL_law 313 = .ok (.aload_n 0, 1) := by decide +kernel
theorem dL_law_314 : decode cL_law 314 = .ok (.iload_n 3, 1) := by decide +kernel
theorem dL_law_315 : decode cL_law 315 = .ok (.iconst 3, 1) := by decide +kernel
theorem dL_law_316 : decode cL_law 316 = .ok (.iadd, 1) := by decide +kernel
theorem dL_law_317 : decode cL_law 317 = .ok (.iaload, 1) := by decide +kernel
theorem dL_law_318 : decode cL_law 318 = .ok (.invokevirtual 30, 3) := by decide +kernel
theorem dL_law_321 : decode cL_law 321 = .ok (.if_icmp .eq 782, 3) := by decide +kernel
theorem dL_law_324 : decode cL_law 324 = .ok (.iconst 0, 1) := by decide +kernel
theorem dL_law_325 : decode cL_law 325 = .ok (.ireturn, 1) := by decide +kernel
theorem dL_law_326 : decode cL_law 326 = .ok (.aload_n 1, 1) := by decide +kernel
theorem dL_law_327 : decode cL_law 327 = .ok (.aload_n 0, 1) := by decide +kernel
theorem dL_law_328 : decode cL_law 328 = .ok (.iload_n 3, 1) := by decide +kernel
theorem dL_law_329 : decode cL_law 329 = .ok (.iconst 1, 1) := by decide +kernel
theorem dL_law_330 : decode cL_law 330 = .ok (.iadd, 1) := by decide +kernel
theorem dL_law_331 : decode cL_law 331 = .ok (.iaload, 1) := by decide +kernel
theorem dL_law_332 : decode cL_law 332 = .ok (.aload_n 0, 1) := by decide +kernel
theorem dL_law_333 : decode cL_law 333 = .ok (.iload_n 3, 1) := by decide +kernel
theorem dL_law_334 : decode cL_law 334 = .ok (.iconst 2, 1) := by decide +kernel
theorem dL_law_335 : decode cL_law 335 = .ok (.iadd, 1) := by decide +kernel
theorem dL_law_336 : decode cL_law 336 = .ok (.iaload, 1) := by decide +kernel
theorem dL_law_337 : decode cL_law 337 = .ok (.invokevirtual 31, 3) := by decide +kernel
theorem dL_law_340 : decode cL_law 340 = .ok (.aload_n 2, 1) := by decide +kernel
theorem dL_law_341 : decode cL_law 341 = .ok (.aload_n 0, 1) := by decide +kernel
theorem dL_law_342 : decode cL_law 342 = .ok (.iload_n 3, 1) := by decide +kernel
theorem dL_law_343 : decode cL_law 343 = .ok (.iconst 1, 1) := by decide +kernel
theorem dL_law_344 : decode cL_law 344 = .ok (.iadd, 1) := by decide +kernel
theorem dL_law_345 : decode cL_law 345 = .ok (.iaload, 1) := by decide +kernel
theorem dL_law_346 : decode cL_law 346 = .ok (.aload_n 0, 1) := by decide +kernel
theorem dL_law_347 : decode cL_law 347 = .ok (.iload_n 3, 1) := by decide +kernel
theorem dL_law_348 : decode cL_law 348 = .ok (.iconst 2, 1) := by decide +kernel
theorem dL_law_349 : decode cL_law 349 = .ok (.iadd, 1) := by decide +kernel
theorem dL_law_350 : decode cL_law 350 = .ok (.iaload, 1) := by decide +kernel
theorem dL_law_351 : decode cL_law 351 = .ok (.invokevirtual 34, 3) := by decide +kernel
theorem dL_law_354 : decode cL_law 354 = .ok (.if_icmp .eq 749, 3) := by decide +kernel
theorem dL_law_357 : decode cL_law 357 = .ok (.iconst 0, 1) := by decide +kernel
theorem dL_law_358 : decode cL_law 358 = .ok (.ireturn, 1) := by decide +kernel
theorem dL_law_359 : decode cL_law 359 = .ok (.aload_n 1, 1) := by decide +kernel
theorem dL_law_360 : decode cL_law 360 = .ok (.aload_n 0, 1) := by decide +kernel
theorem dL_law_361 : decode cL_law 361 = .ok (.iload_n 3, 1) := by decide +kernel
theorem dL_law_362 : decode cL_law 362 = .ok (.iconst 1, 1) := by decide +kernel
theorem dL_law_363 : decode cL_law 363 = .ok (.iadd, 1) := by decide +kernel
theorem dL_law_364 : decode cL_law 364 = .ok (.iaload, 1) := by decide +kernel
theorem dL_law_365 : decode cL_law 365 = .ok (.invokevirtual 35, 3) := by decide +kernel
theorem dL_law_368 : decode cL_law 368 = .ok (.aload_n 2, 1) := by decide +kernel
theorem dL_law_369 : decode cL_law 369 = .ok (.aload_n 0, 1) := by decide +kernel
theorem dL_law_370 : decode cL_law 370 = .ok (.iload_n 3, 1) := by decide +kernel
theorem dL_law_371 : decode cL_law 371 = .ok (.iconst 1, 1) := by decide +kernel
theorem dL_law_372 : decode cL_law 372 = .ok (.iadd, 1) := by decide +kernel
theorem dL_law_373 : decode cL_law 373 = .ok (.iaload, 1) := by decide +kernel
theorem dL_law_374 : decode cL_law 374 = .ok (.invokevirtual 39, 3) := by decide +kernel
theorem dL_law_377 : decode cL_law 377 = .ok (.if_icmp .eq 726, 3) := by decide +kernel
theorem dL_law_380 : decode cL_law 380 = .ok (.iconst 0, 1) := by decide +kernel
theorem dL_law_381 : decode cL_law 381 = .ok (.ireturn, 1) := by decide +kernel
theorem dL_law_382 : decode cL_law 382 = .ok (.aload_n 1, 1) := by decide +kernel
theorem dL_law_383 : decode cL_law 383 = .ok (.invokevirtual 40, 3) := by decide +kernel
theorem dL_law_386 : decode cL_law 386 = .ok (.aload_n 2, 1) := by decide +kernel
theorem dL_law_387 : decode cL_law 387 = .ok (.invokevirtual 44, 3) := by decide +kernel
theorem dL_law_390 : decode cL_law 390 = .ok (.if_icmp .eq 713, 3) := by decide +kernel
theorem dL_law_393 : decode cL_law 393 = .ok (.iconst 0, 1) := by decide +kernel
theorem dL_law_394 : decode cL_law 394 = .ok (.ireturn, 1) := by decide +kernel
theorem dL_law_395 : decode cL_law 395 = .ok (.aload_n 1, 1) := by decide +kernel
theorem dL_law_396 : decode cL_law 396 = .ok (.aload_n 0, 1) := by decide +kernel
theorem dL_law_397 : decode cL_law 397 = .ok (.iload_n 3, 1) := by decide +kernel
theorem dL_law_398 : decode cL_law 398 = .ok (.iconst 1, 1) := by decide +kernel
theorem dL_law_399 : decode cL_law 399 = .ok (.iadd, 1) := by decide +kernel
theorem dL_law_400 : decode cL_law 400 = .ok (.iaload, 1) := by decide +kernel
theorem dL_law_401 : decode cL_law 401 = .ok (.invokevirtual 45, 3) := by decide +kernel
theorem dL_law_404 : decode cL_law 404 = .ok (.aload_n 2, 1) := by decide +kernel
theorem dL_law_405 : decode cL_law 405 = .ok (.aload_n 0, 1) := by decide +kernel
theorem dL_law_406 : decode cL_law 406 = .ok (.iload_n 3, 1) := by decide +kernel
theorem dL_law_407 : decode cL_law 407 = .ok (.iconst 1, 1) := by decide +kernel
theorem dL_law_408 : decode cL_law 408 = .ok (.iadd, 1) := by decide +kernel
theorem dL_law_409 : decode cL_law 409 = .ok (.iaload, 1) := by decide +kernel
theorem dL_law_410 : decode cL_law 410 = .ok (.invokevirtual 48, 3) := by decide +kernel
theorem dL_law_413 : decode cL_law 413 = .ok (.if_icmp .eq 690, 3) := by decide +kernel
theorem dL_law_416 : decode cL_law 416 = .ok (.iconst 0, 1) := by decide +kernel
theorem dL_law_417 : decode cL_law 417 = .ok (.ireturn, 1) := by decide +kernel
theorem dL_law_418 : decode cL_law 418 = .ok (.aload_n 1, 1) := by decide +kernel
theorem dL_law_419 : decode cL_law 419 = .ok (.aload_n 0, 1) := by decide +kernel
theorem dL_law_420 : decode cL_law 420 = .ok (.iload_n 3, 1) := by decide +kernel
theorem dL_law_421 : decode cL_law 421 = .ok (.iconst 1, 1) := by decide +kernel
theorem dL_law_422 : decode cL_law 422 = .ok (.iadd, 1) := by decide +kernel
theorem dL_law_423 : decode cL_law 423 = .ok (.iaload, 1) := by decide +kernel
theorem dL_law_424 : decode cL_law 424 = .ok (.aload_n 0, 1) := by decide +kernel
theorem dL_law_425 : decode cL_law 425 = .ok (.iload_n 3, 1) := by decide +kernel
theorem dL_law_426 : decode cL_law 426 = .ok (.iconst 2, 1) := by decide +kernel
theorem dL_law_427 : decode cL_law 427 = .ok (.iadd, 1) := by decide +kernel
theorem dL_law_428 : decode cL_law 428 = .ok (.iaload, 1) := by decide +kernel
theorem dL_law_429 : decode cL_law 429 = .ok (.invokevirtual 49, 3) := by decide +kernel
theorem dL_law_432 : decode cL_law 432 = .ok (.aload_n 2, 1) := by decide +kernel
theorem dL_law_433 : decode cL_law 433 = .ok (.aload_n 0, 1) := by decide +kernel
theorem dL_law_434 : decode cL_law 434 = .ok (.iload_n 3, 1) := by decide +kernel
theorem dL_law_435 : decode cL_law 435 = .ok (.iconst 1, 1) := by decide +kernel
theorem dL_law_436 : decode cL_law 436 = .ok (.iadd, 1) := by decide +kernel
theorem dL_law_437 : decode cL_law 437 = .ok (.iaload, 1) := by decide +kernel
theorem dL_law_438 : decode cL_law 438 = .ok (.aload_n 0, 1) := by decide +kernel
theorem dL_law_439 : decode cL_law 439 = .ok (.iload_n 3, 1) := by decide +kernel
theorem dL_law_440 : decode cL_law 440 = .ok (.iconst 2, 1) := by decide +kernel
theorem dL_law_441 : decode cL_law 441 = .ok (.iadd, 1) := by decide +kernel
theorem dL_law_442 : decode cL_law 442 = .ok (.iaload, 1) := by decide +kernel
theorem dL_law_443 : decode cL_law 443 = .ok (.invokevirtual 52, 3) := by decide +kernel
theorem dL_law_446 : decode cL_law 446 = .ok (.if_icmp .eq 657, 3) := by decide +kernel
theorem dL_law_449 : decode cL_law 449 = .ok (.iconst 0, 1) := by decide +kernel
theorem dL_law_450 : decode cL_law 450 = .ok (.ireturn, 1) := by decide +kernel
theorem dL_law_451 : decode cL_law 451 = .ok (.aload_n 1, 1) := by decide +kernel
theorem dL_law_452 : decode cL_law 452 = .ok (.aload_n 0, 1) := by decide +kernel
theorem dL_law_453 : decode cL_law 453 = .ok (.iload_n 3, 1) := by decide +kernel
theorem dL_law_454 : decode cL_law 454 = .ok (.iconst 1, 1) := by decide +kernel
theorem dL_law_455 : decode cL_law 455 = .ok (.iadd, 1) := by decide +kernel
theorem dL_law_456 : decode cL_law 456 = .ok (.iaload, 1) := by decide +kernel
theorem dL_law_457 : decode cL_law 457 = .ok (.invokevirtual 53, 3) := by decide +kernel
theorem dL_law_460 : decode cL_law 460 = .ok (.aload_n 2, 1) := by decide +kernel
theorem dL_law_461 : decode cL_law 461 = .ok (.aload_n 0, 1) := by decide +kernel
theorem dL_law_462 : decode cL_law 462 = .ok (.iload_n 3, 1) := by decide +kernel
theorem dL_law_463 : decode cL_law 463 = .ok (.iconst 1, 1) := by decide +kernel
theorem dL_law_464 : decode cL_law 464 = .ok (.iadd, 1) := by decide +kernel
theorem dL_law_465 : decode cL_law 465 = .ok (.iaload, 1) := by decide +kernel
theorem dL_law_466 : decode cL_law 466 = .ok (.invokevirtual 56, 3) := by decide +kernel
theorem dL_law_469 : decode cL_law 469 = .ok (.if_icmp .eq 634, 3) := by decide +kernel
theorem dL_law_472 : decode cL_law 472 = .ok (.iconst 0, 1) := by decide +kernel
theorem dL_law_473 : decode cL_law 473 = .ok (.ireturn, 1) := by decide +kernel
theorem dL_law_474 : decode cL_law 474 = .ok (.aload_n 1, 1) := by decide +kernel
theorem dL_law_475 : decode cL_law 475 = .ok (.aload_n 0, 1) := by decide +kernel
theorem dL_law_476 : decode cL_law 476 = .ok (.iload_n 3, 1) := by decide +kernel
theorem dL_law_477 : decode cL_law 477 = .ok (.iconst 1, 1) := by decide +kernel
theorem dL_law_478 : decode cL_law 478 = .ok (.iadd, 1) := by decide +kernel
theorem dL_law_479 : decode cL_law 479 = .ok (.iaload, 1) := by decide +kernel
theorem dL_law_480 : decode cL_law 480 = .ok (.invokevirtual 57, 3) := by decide +kernel
theorem dL_law_483 : decode cL_law 483 = .ok (.aload_n 2, 1) := by decide +kernel
theorem dL_law_484 : decode cL_law 484 = .ok (.aload_n 0, 1) := by decide +kernel
theorem dL_law_485 : decode cL_law 485 = .ok (.iload_n 3, 1) := by decide +kernel
theorem dL_law_486 : decode cL_law 486 = .ok (.iconst 1, 1) := by decide +kernel
theorem dL_law_487 : decode cL_law 487 = .ok (.iadd, 1) := by decide +kernel
theorem dL_law_488 : decode cL_law 488 = .ok (.iaload, 1) := by decide +kernel
theorem dL_law_489 : decode cL_law 489 = .ok (.invokevirtual 61, 3) := by decide +kernel
theorem dL_law_492 : decode cL_law 492 = .ok (.lcmp, 1) := by decide +kernel
theorem dL_law_493 : decode cL_law 493 = .ok (.ifCond .eq 610, 3) := by decide +kernel
theorem dL_law_496 : decode cL_law 496 = .ok (.iconst 0, 1) := by decide +kernel
theorem dL_law_497 : decode cL_law 497 = .ok (.ireturn, 1) := by decide +kernel
theorem dL_law_498 : decode cL_law 498 = .ok (.aload_n 1, 1) := by decide +kernel
theorem dL_law_499 : decode cL_law 499 = .ok (.aload_n 0, 1) := by decide +kernel
theorem dL_law_500 : decode cL_law 500 = .ok (.iload_n 3, 1) := by decide +kernel
theorem dL_law_501 : decode cL_law 501 = .ok (.iconst 1, 1) := by decide +kernel
theorem dL_law_502 : decode cL_law 502 = .ok (.iadd, 1) := by decide +kernel
theorem dL_law_503 : decode cL_law 503 = .ok (.iaload, 1) := by decide +kernel
theorem dL_law_504 : decode cL_law 504 = .ok (.aload_n 0, 1) := by decide +kernel
theorem dL_law_505 : decode cL_law 505 = .ok (.iload_n 3, 1) := by decide +kernel
theorem dL_law_506 : decode cL_law 506 = .ok (.iconst 2, 1) := by decide +kernel
theorem dL_law_507 : decode cL_law 507 = .ok (.iadd, 1) := by decide +kernel
theorem dL_law_508 : decode cL_law 508 = .ok (.iaload, 1) := by decide +kernel
theorem dL_law_509 : decode cL_law 509 = .ok (.aload_n 0, 1) := by decide +kernel
theorem dL_law_510 : decode cL_law 510 = .ok (.iload_n 3, 1) := by decide +kernel
theorem dL_law_511 : decode cL_law 511 = .ok (.iconst 3, 1) := by decide +kernel
theorem dL_law_512 : decode cL_law 512 = .ok (.iadd, 1) := by decide +kernel
theorem dL_law_513 : decode cL_law 513 = .ok (.iaload, 1) := by decide +kernel
theorem dL_law_514 : decode cL_law 514 = .ok (.invokevirtual 62, 3) := by decide +kernel
theorem dL_law_517 : decode cL_law 517 = .ok (.aload_n 2, 1) := by decide +kernel
theorem dL_law_518 : decode cL_law 518 = .ok (.aload_n 0, 1) := by decide +kernel
theorem dL_law_519 : decode cL_law 519 = .ok (.iload_n 3, 1) := by decide +kernel
theorem dL_law_520 : decode cL_law 520 = .ok (.iconst 1, 1) := by decide +kernel
theorem dL_law_521 : decode cL_law 521 = .ok (.iadd, 1) := by decide +kernel
theorem dL_law_522 : decode cL_law 522 = .ok (.iaload, 1) := by decide +kernel
theorem dL_law_523 : decode cL_law 523 = .ok (.aload_n 0, 1) := by decide +kernel
theorem dL_law_524 : decode cL_law 524 = .ok (.iload_n 3, 1) := by decide +kernel
theorem dL_law_525 : decode cL_law 525 = .ok (.iconst 2, 1) := by decide +kernel
theorem dL_law_526 : decode cL_law 526 = .ok (.iadd, 1) := by decide +kernel
theorem dL_law_527 : decode cL_law 527 = .ok (.iaload, 1) := by decide +kernel
theorem dL_law_528 : decode cL_law 528 = .ok (.aload_n 0, 1) := by decide +kernel
theorem dL_law_529 : decode cL_law 529 = .ok (.iload_n 3, 1) := by decide +kernel
theorem dL_law_530 : decode cL_law 530 = .ok (.iconst 3, 1) := by decide +kernel
theorem dL_law_531 : decode cL_law 531 = .ok (.iadd, 1) := by decide +kernel
theorem dL_law_532 : decode cL_law 532 = .ok (.iaload, 1) := by decide +kernel
theorem dL_law_533 : decode cL_law 533 = .ok (.invokevirtual 65, 3) := by decide +kernel
theorem dL_law_536 : decode cL_law 536 = .ok (.if_icmp .eq 567, 3) := by decide +kernel
theorem dL_law_539 : decode cL_law 539 = .ok (.iconst 0, 1) := by decide +kernel
theorem dL_law_540 : decode cL_law 540 = .ok (.ireturn, 1) := by decide +kernel
theorem dL_law_541 : decode cL_law 541 = .ok (.aload_n 1, 1) := by decide +kernel
theorem dL_law_542 : decode cL_law 542 = .ok (.aload_n 0, 1) := by decide +kernel
theorem dL_law_543 : decode cL_law 543 = .ok (.iload_n 3, 1) := by decide +kernel
theorem dL_law_544 : decode cL_law 544 = .ok (.iconst 1, 1) := by decide +kernel
theorem dL_law_545 : decode cL_law 545 = .ok (.iadd, 1) := by decide +kernel
theorem dL_law_546 : decode cL_law 546 = .ok (.iaload, 1) := by decide +kernel
theorem dL_law_547 : decode cL_law 547 = .ok (.invokevirtual 66, 3) := by decide +kernel
theorem dL_law_550 : decode cL_law 550 = .ok (.aload_n 2, 1) := by decide +kernel
theorem dL_law_551 : decode cL_law 551 = .ok (.aload_n 0, 1) := by decide +kernel
theorem dL_law_552 : decode cL_law 552 = .ok (.iload_n 3, 1) := by decide +kernel
theorem dL_law_553 : decode cL_law 553 = .ok (.iconst 1, 1) := by decide +kernel
theorem dL_law_554 : decode cL_law 554 = .ok (.iadd, 1) := by decide +kernel
theorem dL_law_555 : decode cL_law 555 = .ok (.iaload, 1) := by decide +kernel
theorem dL_law_556 : decode cL_law 556 = .ok (.invokevirtual 69, 3) := by decide +kernel
theorem dL_law_559 : decode cL_law 559 = .ok (.if_icmp .eq 544, 3) := by decide +kernel
theorem dL_law_562 : decode cL_law 562 = .ok (.iconst 0, 1) := by decide +kernel
theorem dL_law_563 : decode cL_law 563 = .ok (.ireturn, 1) := by decide +kernel
theorem dL_law_564 : decode cL_law 564 = .ok (.aload_n 1, 1) := by decide +kernel
theorem dL_law_565 : decode cL_law 565 = .ok (.aload_n 0, 1) := by decide +kernel
theorem dL_law_566 : decode cL_law 566 = .ok (.iload_n 3, 1) := by decide +kernel
theorem dL_law_567 : decode cL_law 567 = .ok (.iconst 1, 1) := by decide +kernel
theorem dL_law_568 : decode cL_law 568 = .ok (.iadd, 1) := by decide +kernel
theorem dL_law_569 : decode cL_law 569 = .ok (.iaload, 1) := by decide +kernel
theorem dL_law_570 : decode cL_law 570 = .ok (.aload_n 0, 1) := by decide +kernel
theorem dL_law_571 : decode cL_law 571 = .ok (.iload_n 3, 1) := by decide +kernel
theorem dL_law_572 : decode cL_law 572 = .ok (.iconst 2, 1) := by decide +kernel
theorem dL_law_573 : decode cL_law 573 = .ok (.iadd, 1) := by decide +kernel
theorem dL_law_574 : decode cL_law 574 = .ok (.iaload, 1) := by decide +kernel
theorem dL_law_575 : decode cL_law 575 = .ok (.invokevirtual 70, 3) := by decide +kernel
theorem dL_law_578 : decode cL_law 578 = .ok (.aload_n 2, 1) := by decide +kernel
theorem dL_law_579 : decode cL_law 579 = .ok (.aload_n 0, 1) := by decide +kernel
theorem dL_law_580 : decode cL_law 580 = .ok (.iload_n 3, 1) := by decide +kernel
theorem dL_law_581 : decode cL_law 581 = .ok (.iconst 1, 1) := by decide +kernel
theorem dL_law_582 : decode cL_law 582 = .ok (.iadd, 1) := by decide +kernel
theorem dL_law_583 : decode cL_law 583 = .ok (.iaload, 1) := by decide +kernel
theorem dL_law_584 : decode cL_law 584 = .ok (.aload_n 0, 1) := by decide +kernel
theorem dL_law_585 : decode cL_law 585 = .ok (.iload_n 3, 1) := by decide +kernel
theorem dL_law_586 : decode cL_law 586 = .ok (.iconst 2, 1) := by decide +kernel
theorem dL_law_587 : decode cL_law 587 = .ok (.iadd, 1) := by decide +kernel
theorem dL_law_588 : decode cL_law 588 = .ok (.iaload, 1) := by decide +kernel
theorem dL_law_589 : decode cL_law 589 = .ok (.invokevirtual 73, 3) := by decide +kernel
theorem dL_law_592 : decode cL_law 592 = .ok (.if_icmp .eq 511, 3) := by decide +kernel
theorem dL_law_595 : decode cL_law 595 = .ok (.iconst 0, 1) := by decide +kernel
theorem dL_law_596 : decode cL_law 596 = .ok (.ireturn, 1) := by decide +kernel
theorem dL_law_597 : decode cL_law 597 = .ok (.aload_n 1, 1) := by decide +kernel
theorem dL_law_598 : decode cL_law 598 = .ok (.aload_n 0, 1) := by decide +kernel
theorem dL_law_599 : decode cL_law 599 = .ok (.iload_n 3, 1) := by decide +kernel
theorem dL_law_600 : decode cL_law 600 = .ok (.iconst 1, 1) := by decide +kernel
theorem dL_law_601 : decode cL_law 601 = .ok (.iadd, 1) := by decide +kernel
theorem dL_law_602 : decode cL_law 602 = .ok (.iaload, 1) := by decide +kernel
theorem dL_law_603 : decode cL_law 603 = .ok (.invokevirtual 74, 3) := by decide +kernel
theorem dL_law_606 : decode cL_law 606 = .ok (.aload_n 2, 1) := by decide +kernel
theorem dL_law_607 : decode cL_law 607 = .ok (.aload_n 0, 1) := by decide +kernel
theorem dL_law_608 : decode cL_law 608 = .ok (.iload_n 3, 1) := by decide +kernel
theorem dL_law_609 : decode cL_law 609 = .ok (.iconst 1, 1) := by decide +kernel
theorem dL_law_610 : decode cL_law 610 = .ok (.iadd, 1) := by decide +kernel
theorem dL_law_611 : decode cL_law 611 = .ok (.iaload, 1) := by decide +kernel
theorem dL_law_612 : decode cL_law 612 = .ok (.invokevirtual 77, 3) := by decide +kernel
theorem dL_law_615 : decode cL_law 615 = .ok (.if_icmp .eq 488, 3) := by decide +kernel
theorem dL_law_618 : decode cL_law 618 = .ok (.iconst 0, 1) := by decide +kernel
theorem dL_law_619 : decode cL_law 619 = .ok (.ireturn, 1) := by decide +kernel
theorem dL_law_620 : decode cL_law 620 = .ok (.aload_n 1, 1) := by decide +kernel
theorem dL_law_621 : decode cL_law 621 = .ok (.aload_n 0, 1) := by decide +kernel
theorem dL_law_622 : decode cL_law 622 = .ok (.iload_n 3, 1) := by decide +kernel
theorem dL_law_623 : decode cL_law 623 = .ok (.iconst 1, 1) := by decide +kernel
theorem dL_law_624 : decode cL_law 624 = .ok (.iadd, 1) := by decide +kernel
theorem dL_law_625 : decode cL_law 625 = .ok (.iaload, 1) := by decide +kernel
theorem dL_law_626 : decode cL_law 626 = .ok (.invokevirtual 78, 3) := by decide +kernel
theorem dL_law_629 : decode cL_law 629 = .ok (.aload_n 2, 1) := by decide +kernel
theorem dL_law_630 : decode cL_law 630 = .ok (.aload_n 0, 1) := by decide +kernel
theorem dL_law_631 : decode cL_law 631 = .ok (.iload_n 3, 1) := by decide +kernel
theorem dL_law_632 : decode cL_law 632 = .ok (.iconst 1, 1) := by decide +kernel
theorem dL_law_633 : decode cL_law 633 = .ok (.iadd, 1) := by decide +kernel
theorem dL_law_634 : decode cL_law 634 = .ok (.iaload, 1) := by decide +kernel
theorem dL_law_635 : decode cL_law 635 = .ok (.invokevirtual 81, 3) := by decide +kernel
theorem dL_law_638 : decode cL_law 638 = .ok (.if_icmp .eq 465, 3) := by decide +kernel
theorem dL_law_641 : decode cL_law 641 = .ok (.iconst 0, 1) := by decide +kernel
theorem dL_law_642 : decode cL_law 642 = .ok (.ireturn, 1) := by decide +kernel
theorem dL_law_643 : decode cL_law 643 = .ok (.aload_n 1, 1) := by decide +kernel
theorem dL_law_644 : decode cL_law 644 = .ok (.aload_n 0, 1) := by decide +kernel
theorem dL_law_645 : decode cL_law 645 = .ok (.iload_n 3, 1) := by decide +kernel
theorem dL_law_646 : decode cL_law 646 = .ok (.iconst 1, 1) := by decide +kernel
theorem dL_law_647 : decode cL_law 647 = .ok (.iadd, 1) := by decide +kernel
theorem dL_law_648 : decode cL_law 648 = .ok (.iaload, 1) := by decide +kernel
theorem dL_law_649 : decode cL_law 649 = .ok (.aload_n 0, 1) := by decide +kernel
theorem dL_law_650 : decode cL_law 650 = .ok (.iload_n 3, 1) := by decide +kernel
theorem dL_law_651 : decode cL_law 651 = .ok (.iconst 2, 1) := by decide +kernel
theorem dL_law_652 : decode cL_law 652 = .ok (.iadd, 1) := by decide +kernel
theorem dL_law_653 : decode cL_law 653 = .ok (.iaload, 1) := by decide +kernel
theorem dL_law_654 : decode cL_law 654 = .ok (.invokevirtual 82, 3) := by decide +kernel
theorem dL_law_657 : decode cL_law 657 = .ok (.aload_n 2, 1) := by decide +kernel
theorem dL_law_658 : decode cL_law 658 = .ok (.aload_n 0, 1) := by decide +kernel
theorem dL_law_659 : decode cL_law 659 = .ok (.iload_n 3, 1) := by decide +kernel
theorem dL_law_660 : decode cL_law 660 = .ok (.iconst 1, 1) := by decide +kernel
theorem dL_law_661 : decode cL_law 661 = .ok (.iadd, 1) := by decide +kernel
theorem dL_law_662 : decode cL_law 662 = .ok (.iaload, 1) := by decide +kernel
theorem dL_law_663 : decode cL_law 663 = .ok (.aload_n 0, 1) := by decide +kernel
theorem dL_law_664 : decode cL_law 664 = .ok (.iload_n 3, 1) := by decide +kernel
theorem dL_law_665 : decode cL_law 665 = .ok (.iconst 2, 1) := by decide +kernel
theorem dL_law_666 : decode cL_law 666 = .ok (.iadd, 1) := by decide +kernel
theorem dL_law_667 : decode cL_law 667 = .ok (.iaload, 1) := by decide +kernel
theorem dL_law_668 : decode cL_law 668 = .ok (.invokevirtual 85, 3) := by decide +kernel
theorem dL_law_671 : decode cL_law 671 = .ok (.if_icmp .eq 432, 3) := by decide +kernel
theorem dL_law_674 : decode cL_law 674 = .ok (.iconst 0, 1) := by decide +kernel
theorem dL_law_675 : decode cL_law 675 = .ok (.ireturn, 1) := by decide +kernel
theorem dL_law_676 : decode cL_law 676 = .ok (.aload_n 1, 1) := by decide +kernel
theorem dL_law_677 : decode cL_law 677 = .ok (.aload_n 0, 1) := by decide +kernel
theorem dL_law_678 : decode cL_law 678 = .ok (.iload_n 3, 1) := by decide +kernel
theorem dL_law_679 : decode cL_law 679 = .ok (.iconst 1, 1) := by decide +kernel
theorem dL_law_680 : decode cL_law 680 = .ok (.iadd, 1) := by decide +kernel
theorem dL_law_681 : decode cL_law 681 = .ok (.iaload, 1) := by decide +kernel
theorem dL_law_682 : decode cL_law 682 = .ok (.aload_n 0, 1) := by decide +kernel
theorem dL_law_683 : decode cL_law 683 = .ok (.iload_n 3, 1) := by decide +kernel
theorem dL_law_684 : decode cL_law 684 = .ok (.iconst 2, 1) := by decide +kernel
theorem dL_law_685 : decode cL_law 685 = .ok (.iadd, 1) := by decide +kernel
theorem dL_law_686 : decode cL_law 686 = .ok (.iaload, 1) := by decide +kernel
theorem dL_law_687 : decode cL_law 687 = .ok (.aload_n 0, 1) := by decide +kernel
theorem dL_law_688 : decode cL_law 688 = .ok (.iload_n 3, 1) := by decide +kernel
theorem dL_law_689 : decode cL_law 689 = .ok (.iconst 3, 1) := by decide +kernel
theorem dL_law_690 : decode cL_law 690 = .ok (.iadd, 1) := by decide +kernel
theorem dL_law_691 : decode cL_law 691 = .ok (.iaload, 1) := by decide +kernel
theorem dL_law_692 : decode cL_law 692 = .ok (.invokevirtual 86, 3) := by decide +kernel
theorem dL_law_695 : decode cL_law 695 = .ok (.aload_n 2, 1) := by decide +kernel
theorem dL_law_696 : decode cL_law 696 = .ok (.aload_n 0, 1) := by decide +kernel
theorem dL_law_697 : decode cL_law 697 = .ok (.iload_n 3, 1) := by decide +kernel
theorem dL_law_698 : decode cL_law 698 = .ok (.iconst 1, 1) := by decide +kernel
theorem dL_law_699 : decode cL_law 699 = .ok (.iadd, 1) := by decide +kernel
theorem dL_law_700 : decode cL_law 700 = .ok (.iaload, 1) := by decide +kernel
theorem dL_law_701 : decode cL_law 701 = .ok (.aload_n 0, 1) := by decide +kernel
theorem dL_law_702 : decode cL_law 702 = .ok (.iload_n 3, 1) := by decide +kernel
theorem dL_law_703 : decode cL_law 703 = .ok (.iconst 2, 1) := by decide +kernel
theorem dL_law_704 : decode cL_law 704 = .ok (.iadd, 1) := by decide +kernel
theorem dL_law_705 : decode cL_law 705 = .ok (.iaload, 1) := by decide +kernel
theorem dL_law_706 : decode cL_law 706 = .ok (.aload_n 0, 1) := by decide +kernel
theorem dL_law_707 : decode cL_law 707 = .ok (.iload_n 3, 1) := by decide +kernel
theorem dL_law_708 : decode cL_law 708 = .ok (.iconst 3, 1) := by decide +kernel
theorem dL_law_709 : decode cL_law 709 = .ok (.iadd, 1) := by decide +kernel
theorem dL_law_710 : decode cL_law 710 = .ok (.iaload, 1) := by decide +kernel
theorem dL_law_711 : decode cL_law 711 = .ok (.invokevirtual 89, 3) := by decide +kernel
theorem dL_law_714 : decode cL_law 714 = .ok (.if_icmp .eq 389, 3) := by decide +kernel
theorem dL_law_717 : decode cL_law 717 = .ok (.iconst 0, 1) := by decide +kernel
theorem dL_law_718 : decode cL_law 718 = .ok (.ireturn, 1) := by decide +kernel
theorem dL_law_719 : decode cL_law 719 = .ok (.aload_n 1, 1) := by decide +kernel
theorem dL_law_720 : decode cL_law 720 = .ok (.aload_n 0, 1) := by decide +kernel
theorem dL_law_721 : decode cL_law 721 = .ok (.iload_n 3, 1) := by decide +kernel
theorem dL_law_722 : decode cL_law 722 = .ok (.iconst 1, 1) := by decide +kernel
theorem dL_law_723 : decode cL_law 723 = .ok (.iadd, 1) := by decide +kernel
theorem dL_law_724 : decode cL_law 724 = .ok (.iaload, 1) := by decide +kernel
theorem dL_law_725 : decode cL_law 725 = .ok (.aload_n 0, 1) := by decide +kernel
theorem dL_law_726 : decode cL_law 726 = .ok (.iload_n 3, 1) := by decide +kernel
theorem dL_law_727 : decode cL_law 727 = .ok (.iconst 2, 1) := by decide +kernel
theorem dL_law_728 : decode cL_law 728 = .ok (.iadd, 1) := by decide +kernel
theorem dL_law_729 : decode cL_law 729 = .ok (.iaload, 1) := by decide +kernel
theorem dL_law_730 : decode cL_law 730 = .ok (.invokevirtual 90, 3) := by decide +kernel
theorem dL_law_733 : decode cL_law 733 = .ok (.aload_n 2, 1) := by decide +kernel
theorem dL_law_734 : decode cL_law 734 = .ok (.aload_n 0, 1) := by decide +kernel
theorem dL_law_735 : decode cL_law 735 = .ok (.iload_n 3, 1) := by decide +kernel
theorem dL_law_736 : decode cL_law 736 = .ok (.iconst 1, 1) := by decide +kernel
theorem dL_law_737 : decode cL_law 737 = .ok (.iadd, 1) := by decide +kernel
theorem dL_law_738 : decode cL_law 738 = .ok (.iaload, 1) := by decide +kernel
theorem dL_law_739 : decode cL_law 739 = .ok (.aload_n 0, 1) := by decide +kernel
theorem dL_law_740 : decode cL_law 740 = .ok (.iload_n 3, 1) := by decide +kernel
theorem dL_law_741 : decode cL_law 741 = .ok (.iconst 2, 1) := by decide +kernel
theorem dL_law_742 : decode cL_law 742 = .ok (.iadd, 1) := by decide +kernel
theorem dL_law_743 : decode cL_law 743 = .ok (.iaload, 1) := by decide +kernel
theorem dL_law_744 : decode cL_law 744 = .ok (.invokevirtual 93, 3) := by decide +kernel
theorem dL_law_747 : decode cL_law 747 = .ok (.if_icmp .eq 356, 3) := by decide +kernel
theorem dL_law_750 : decode cL_law 750 = .ok (.iconst 0, 1) := by decide +kernel
theorem dL_law_751 : decode cL_law 751 = .ok (.ireturn, 1) := by decide +kernel
theorem dL_law_752 : decode cL_law 752 = .ok (.aload_n 1, 1) := by decide +kernel
theorem dL_law_753 : decode cL_law 753 = .ok (.aload_n 0, 1) := by decide +kernel
theorem dL_law_754 : decode cL_law 754 = .ok (.iload_n 3, 1) := by decide +kernel
theorem dL_law_755 : decode cL_law 755 = .ok (.iconst 1, 1) := by decide +kernel
theorem dL_law_756 : decode cL_law 756 = .ok (.iadd, 1) := by decide +kernel
theorem dL_law_757 : decode cL_law 757 = .ok (.iaload, 1) := by decide +kernel
theorem dL_law_758 : decode cL_law 758 = .ok (.invokevirtual 94, 3) := by decide +kernel
theorem dL_law_761 : decode cL_law 761 = .ok (.aload_n 2, 1) := by decide +kernel
theorem dL_law_762 : decode cL_law 762 = .ok (.aload_n 0, 1) := by decide +kernel
theorem dL_law_763 : decode cL_law 763 = .ok (.iload_n 3, 1) := by decide +kernel
theorem dL_law_764 : decode cL_law 764 = .ok (.iconst 1, 1) := by decide +kernel
theorem dL_law_765 : decode cL_law 765 = .ok (.iadd, 1) := by decide +kernel
theorem dL_law_766 : decode cL_law 766 = .ok (.iaload, 1) := by decide +kernel
theorem dL_law_767 : decode cL_law 767 = .ok (.invokevirtual 97, 3) := by decide +kernel
theorem dL_law_770 : decode cL_law 770 = .ok (.if_icmp .eq 333, 3) := by decide +kernel
theorem dL_law_773 : decode cL_law 773 = .ok (.iconst 0, 1) := by decide +kernel
theorem dL_law_774 : decode cL_law 774 = .ok (.ireturn, 1) := by decide +kernel
theorem dL_law_775 : decode cL_law 775 = .ok (.aload_n 1, 1) := by decide +kernel
theorem dL_law_776 : decode cL_law 776 = .ok (.aload_n 0, 1) := by decide +kernel
theorem dL_law_777 : decode cL_law 777 = .ok (.iload_n 3, 1) := by decide +kernel
theorem dL_law_778 : decode cL_law 778 = .ok (.iconst 1, 1) := by decide +kernel
theorem dL_law_779 : decode cL_law 779 = .ok (.iadd, 1) := by decide +kernel
theorem dL_law_780 : decode cL_law 780 = .ok (.iaload, 1) := by decide +kernel
theorem dL_law_781 : decode cL_law 781 = .ok (.aload_n 0, 1) := by decide +kernel
theorem dL_law_782 : decode cL_law 782 = .ok (.iload_n 3, 1) := by decide +kernel
theorem dL_law_783 : decode cL_law 783 = .ok (.iconst 2, 1) := by decide +kernel
theorem dL_law_784 : decode cL_law 784 = .ok (.iadd, 1) := by decide +kernel
theorem dL_law_785 : decode cL_law 785 = .ok (.iaload, 1) := by decide +kernel
theorem dL_law_786 : decode cL_law 786 = .ok (.aload_n 0, 1) := by decide +kernel
theorem dL_law_787 : decode cL_law 787 = .ok (.iload_n 3, 1) := by decide +kernel
theorem dL_law_788 : decode cL_law 788 = .ok (.iconst 3, 1) := by decide +kernel
theorem dL_law_789 : decode cL_law 789 = .ok (.iadd, 1) := by decide +kernel
theorem dL_law_790 : decode cL_law 790 = .ok (.iaload, 1) := by decide +kernel
theorem dL_law_791 : decode cL_law 791 = .ok (.invokevirtual 98, 3) := by decide +kernel
theorem dL_law_794 : decode cL_law 794 = .ok (.aload_n 2, 1) := by decide +kernel
theorem dL_law_795 : decode cL_law 795 = .ok (.aload_n 0, 1) := by decide +kernel
theorem dL_law_796 : decode cL_law 796 = .ok (.iload_n 3, 1) := by decide +kernel
theorem dL_law_797 : decode cL_law 797 = .ok (.iconst 1, 1) := by decide +kernel
theorem dL_law_798 : decode cL_law 798 = .ok (.iadd, 1) := by decide +kernel
theorem dL_law_799 : decode cL_law 799 = .ok (.iaload, 1) := by decide +kernel
theorem dL_law_800 : decode cL_law 800 = .ok (.aload_n 0, 1) := by decide +kernel
theorem dL_law_801 : decode cL_law 801 = .ok (.iload_n 3, 1) := by decide +kernel
theorem dL_law_802 : decode cL_law 802 = .ok (.iconst 2, 1) := by decide +kernel
theorem dL_law_803 : decode cL_law 803 = .ok (.iadd, 1) := by decide +kernel
theorem dL_law_804 : decode cL_law 804 = .ok (.iaload, 1) := by decide +kernel
theorem dL_law_805 : decode cL_law 805 = .ok (.aload_n 0, 1) := by decide +kernel
theorem dL_law_806 : decode cL_law 806 = .ok (.iload_n 3, 1) := by decide +kernel
theorem dL_law_807 : decode cL_law 807 = .ok (.iconst 3, 1) := by decide +kernel
theorem dL_law_808 : decode cL_law 808 = .ok (.iadd, 1) := by decide +kernel
theorem dL_law_809 : decode cL_law 809 = .ok (.iaload, 1) := by decide +kernel
theorem dL_law_810 : decode cL_law 810 = .ok (.invokevirtual 102, 3) := by decide +kernel
theorem dL_law_813 : decode cL_law 813 = .ok (.lcmp, 1) := by decide +kernel
theorem dL_law_814 : decode cL_law 814 = .ok (.ifCond .eq 289, 3) := by decide +kernel
theorem dL_law_817 : decode cL_law 817 = .ok (.iconst 0, 1) := by decide +kernel
theorem dL_law_818 : decode cL_law 818 = .ok (.ireturn, 1) := by decide +kernel
theorem dL_law_819 : decode cL_law 819 = .ok (.aload_n 1, 1) := by decide +kernel
theorem dL_law_820 : decode cL_law 820 = .ok (.invokevirtual 103, 3) := by decide +kernel
theorem dL_law_823 : decode cL_law 823 = .ok (.aload_n 2, 1) := by decide +kernel
theorem dL_law_824 : decode cL_law 824 = .ok (.invokevirtual 106, 3) := by decide +kernel
theorem dL_law_827 : decode cL_law 827 = .ok (.if_icmp .eq 276, 3) := by decide +kernel
theorem dL_law_830 : decode cL_law 830 = .ok (.iconst 0, 1) := by decide +kernel
theorem dL_law_831 : decode cL_law 831 = .ok (.ireturn, 1) := by decide +kernel
theorem dL_law_832 : decode cL_law 832 = .ok (.aload_n 1, 1) := by decide +kernel
theorem dL_law_833 : decode cL_law 833 = .ok (.invokevirtual 107, 3) := by decide +kernel
theorem dL_law_836 : decode cL_law 836 = .ok (.aload_n 2, 1) := by decide +kernel
theorem dL_law_837 : decode cL_law 837 = .ok (.invokevirtual 110, 3) := by decide +kernel
theorem dL_law_840 : decode cL_law 840 = .ok (.if_icmp .eq 263, 3) := by decide +kernel
theorem dL_law_843 : decode cL_law 843 = .ok (.iconst 0, 1) := by decide +kernel
theorem dL_law_844 : decode cL_law 844 = .ok (.ireturn, 1) := by decide +kernel
theorem dL_law_845 : decode cL_law 845 = .ok (.aload_n 1, 1) := by decide +kernel
theorem dL_law_846 : decode cL_law 846 = .ok (.aload_n 0, 1) := by decide +kernel
theorem dL_law_847 : decode cL_law 847 = .ok (.iload_n 3, 1) := by decide +kernel
theorem dL_law_848 : decode cL_law 848 = .ok (.iconst 1, 1) := by decide +kernel
theorem dL_law_849 : decode cL_law 849 = .ok (.iadd, 1) := by decide +kernel
theorem dL_law_850 : decode cL_law 850 = .ok (.iaload, 1) := by decide +kernel
theorem dL_law_851 : decode cL_law 851 = .ok (.invokevirtual 111, 3) := by decide +kernel
theorem dL_law_854 : decode cL_law 854 = .ok (.aload_n 2, 1) := by decide +kernel
theorem dL_law_855 : decode cL_law 855 = .ok (.aload_n 0, 1) := by decide +kernel
theorem dL_law_856 : decode cL_law 856 = .ok (.iload_n 3, 1) := by decide +kernel
theorem dL_law_857 : decode cL_law 857 = .ok (.iconst 1, 1) := by decide +kernel
theorem dL_law_858 : decode cL_law 858 = .ok (.iadd, 1) := by decide +kernel
theorem dL_law_859 : decode cL_law 859 = .ok (.iaload, 1) := by decide +kernel
theorem dL_law_860 : decode cL_law 860 = .ok (.invokevirtual 114, 3) := by decide +kernel
theorem dL_law_863 : decode cL_law 863 = .ok (.if_icmp .eq 240, 3) := by decide +kernel
theorem dL_law_866 : decode cL_law 866 = .ok (.iconst 0, 1) := by decide +kernel
theorem dL_law_867 : decode cL_law 867 = .ok (.ireturn, 1) := by decide +kernel
theorem dL_law_868 : decode cL_law 868 = .ok (.aload_n 1, 1) := by decide +kernel
theorem dL_law_869 : decode cL_law 869 = .ok (.aload_n 0, 1) := by decide +kernel
theorem dL_law_870 : decode cL_law 870 = .ok (.iload_n 3, 1) := by decide +kernel
theorem dL_law_871 : decode cL_law 871 = .ok (.iconst 1, 1) := by decide +kernel
theorem dL_law_872 : decode cL_law 872 = .ok (.iadd, 1) := by decide +kernel
theorem dL_law_873 : decode cL_law 873 = .ok (.iaload, 1) := by decide +kernel
theorem dL_law_874 : decode cL_law 874 = .ok (.aload_n 0, 1) := by decide +kernel
theorem dL_law_875 : decode cL_law 875 = .ok (.iload_n 3, 1) := by decide +kernel
theorem dL_law_876 : decode cL_law 876 = .ok (.iconst 2, 1) := by decide +kernel
theorem dL_law_877 : decode cL_law 877 = .ok (.iadd, 1) := by decide +kernel
theorem dL_law_878 : decode cL_law 878 = .ok (.iaload, 1) := by decide +kernel
theorem dL_law_879 : decode cL_law 879 = .ok (.aload_n 0, 1) := by decide +kernel
theorem dL_law_880 : decode cL_law 880 = .ok (.iload_n 3, 1) := by decide +kernel
theorem dL_law_881 : decode cL_law 881 = .ok (.iconst 3, 1) := by decide +kernel
theorem dL_law_882 : decode cL_law 882 = .ok (.iadd, 1) := by decide +kernel
theorem dL_law_883 : decode cL_law 883 = .ok (.iaload, 1) := by decide +kernel
theorem dL_law_884 : decode cL_law 884 = .ok (.invokevirtual 115, 3) := by decide +kernel
theorem dL_law_887 : decode cL_law 887 = .ok (.aload_n 2, 1) := by decide +kernel
theorem dL_law_888 : decode cL_law 888 = .ok (.aload_n 0, 1) := by decide +kernel
theorem dL_law_889 : decode cL_law 889 = .ok (.iload_n 3, 1) := by decide +kernel
theorem dL_law_890 : decode cL_law 890 = .ok (.iconst 1, 1) := by decide +kernel
theorem dL_law_891 : decode cL_law 891 = .ok (.iadd, 1) := by decide +kernel
theorem dL_law_892 : decode cL_law 892 = .ok (.iaload, 1) := by decide +kernel
theorem dL_law_893 : decode cL_law 893 = .ok (.aload_n 0, 1) := by decide +kernel
theorem dL_law_894 : decode cL_law 894 = .ok (.iload_n 3, 1) := by decide +kernel
theorem dL_law_895 : decode cL_law 895 = .ok (.iconst 2, 1) := by decide +kernel
theorem dL_law_896 : decode cL_law 896 = .ok (.iadd, 1) := by decide +kernel
theorem dL_law_897 : decode cL_law 897 = .ok (.iaload, 1) := by decide +kernel
theorem dL_law_898 : decode cL_law 898 = .ok (.aload_n 0, 1) := by decide +kernel
theorem dL_law_899 : decode cL_law 899 = .ok (.iload_n 3, 1) := by decide +kernel
theorem dL_law_900 : decode cL_law 900 = .ok (.iconst 3, 1) := by decide +kernel
theorem dL_law_901 : decode cL_law 901 = .ok (.iadd, 1) := by decide +kernel
theorem dL_law_902 : decode cL_law 902 = .ok (.iaload, 1) := by decide +kernel
theorem dL_law_903 : decode cL_law 903 = .ok (.invokevirtual 118, 3) := by decide +kernel
theorem dL_law_906 : decode cL_law 906 = .ok (.if_icmp .eq 197, 3) := by decide +kernel
theorem dL_law_909 : decode cL_law 909 = .ok (.iconst 0, 1) := by decide +kernel
theorem dL_law_910 : decode cL_law 910 = .ok (.ireturn, 1) := by decide +kernel
theorem dL_law_911 : decode cL_law 911 = .ok (.aload_n 1, 1) := by decide +kernel
theorem dL_law_912 : decode cL_law 912 = .ok (.aload_n 0, 1) := by decide +kernel
theorem dL_law_913 : decode cL_law 913 = .ok (.iload_n 3, 1) := by decide +kernel
theorem dL_law_914 : decode cL_law 914 = .ok (.iconst 1, 1) := by decide +kernel
theorem dL_law_915 : decode cL_law 915 = .ok (.iadd, 1) := by decide +kernel
theorem dL_law_916 : decode cL_law 916 = .ok (.iaload, 1) := by decide +kernel
theorem dL_law_917 : decode cL_law 917 = .ok (.aload_n 0, 1) := by decide +kernel
theorem dL_law_918 : decode cL_law 918 = .ok (.iload_n 3, 1) := by decide +kernel
theorem dL_law_919 : decode cL_law 919 = .ok (.iconst 2, 1) := by decide +kernel
theorem dL_law_920 : decode cL_law 920 = .ok (.iadd, 1) := by decide +kernel
theorem dL_law_921 : decode cL_law 921 = .ok (.iaload, 1) := by decide +kernel
theorem dL_law_922 : decode cL_law 922 = .ok (.aload_n 0, 1) := by decide +kernel
theorem dL_law_923 : decode cL_law 923 = .ok (.iload_n 3, 1) := by decide +kernel
theorem dL_law_924 : decode cL_law 924 = .ok (.iconst 3, 1) := by decide +kernel
theorem dL_law_925 : decode cL_law 925 = .ok (.iadd, 1) := by decide +kernel
theorem dL_law_926 : decode cL_law 926 = .ok (.iaload, 1) := by decide +kernel
theorem dL_law_927 : decode cL_law 927 = .ok (.invokevirtual 119, 3) := by decide +kernel
theorem dL_law_930 : decode cL_law 930 = .ok (.aload_n 2, 1) := by decide +kernel
theorem dL_law_931 : decode cL_law 931 = .ok (.aload_n 0, 1) := by decide +kernel
theorem dL_law_932 : decode cL_law 932 = .ok (.iload_n 3, 1) := by decide +kernel
theorem dL_law_933 : decode cL_law 933 = .ok (.iconst 1, 1) := by decide +kernel
theorem dL_law_934 : decode cL_law 934 = .ok (.iadd, 1) := by decide +kernel
theorem dL_law_935 : decode cL_law 935 = .ok (.iaload, 1) := by decide +kernel
theorem dL_law_936 : decode cL_law 936 = .ok (.aload_n 0, 1) := by decide +kernel
theorem dL_law_937 : decode cL_law 937 = .ok (.iload_n 3, 1) := by decide +kernel
theorem dL_law_938 : decode cL_law 938 = .ok (.iconst 2, 1) := by decide +kernel
theorem dL_law_939 : decode cL_law 939 = .ok (.iadd, 1) := by decide +kernel
theorem dL_law_940 : decode cL_law 940 = .ok (.iaload, 1) := by decide +kernel
theorem dL_law_941 : decode cL_law 941 = .ok (.aload_n 0, 1) := by decide +kernel
theorem dL_law_942 : decode cL_law 942 = .ok (.iload_n 3, 1) := by decide +kernel
theorem dL_law_943 : decode cL_law 943 = .ok (.iconst 3, 1) := by decide +kernel
theorem dL_law_944 : decode cL_law 944 = .ok (.iadd, 1) := by decide +kernel
theorem dL_law_945 : decode cL_law 945 = .ok (.iaload, 1) := by decide +kernel
theorem dL_law_946 : decode cL_law 946 = .ok (.invokevirtual 122, 3) := by decide +kernel
theorem dL_law_949 : decode cL_law 949 = .ok (.if_icmp .eq 154, 3) := by decide +kernel
theorem dL_law_952 : decode cL_law 952 = .ok (.iconst 0, 1) := by decide +kernel
theorem dL_law_953 : decode cL_law 953 = .ok (.ireturn, 1) := by decide +kernel
theorem dL_law_954 : decode cL_law 954 = .ok (.aload_n 1, 1) := by decide +kernel
theorem dL_law_955 : decode cL_law 955 = .ok (.aload_n 0, 1) := by decide +kernel
theorem dL_law_956 : decode cL_law 956 = .ok (.iload_n 3, 1) := by decide +kernel
theorem dL_law_957 : decode cL_law 957 = .ok (.iconst 1, 1) := by decide +kernel
theorem dL_law_958 : decode cL_law 958 = .ok (.iadd, 1) := by decide +kernel
theorem dL_law_959 : decode cL_law 959 = .ok (.iaload, 1) := by decide +kernel
theorem dL_law_960 : decode cL_law 960 = .ok (.aload_n 0, 1) := by decide +kernel
theorem dL_law_961 : decode cL_law 961 = .ok (.iload_n 3, 1) := by decide +kernel
theorem dL_law_962 : decode cL_law 962 = .ok (.iconst 2, 1) := by decide +kernel
theorem dL_law_963 : decode cL_law 963 = .ok (.iadd, 1) := by decide +kernel
theorem dL_law_964 : decode cL_law 964 = .ok (.iaload, 1) := by decide +kernel
theorem dL_law_965 : decode cL_law 965 = .ok (.aload_n 0, 1) := by decide +kernel
theorem dL_law_966 : decode cL_law 966 = .ok (.iload_n 3, 1) := by decide +kernel
theorem dL_law_967 : decode cL_law 967 = .ok (.iconst 3, 1) := by decide +kernel
theorem dL_law_968 : decode cL_law 968 = .ok (.iadd, 1) := by decide +kernel
theorem dL_law_969 : decode cL_law 969 = .ok (.iaload, 1) := by decide +kernel
theorem dL_law_970 : decode cL_law 970 = .ok (.aload_n 0, 1) := by decide +kernel
theorem dL_law_971 : decode cL_law 971 = .ok (.iload_n 3, 1) := by decide +kernel
theorem dL_law_972 : decode cL_law 972 = .ok (.iconst 4, 1) := by decide +kernel
theorem dL_law_973 : decode cL_law 973 = .ok (.iadd, 1) := by decide +kernel
theorem dL_law_974 : decode cL_law 974 = .ok (.iaload, 1) := by decide +kernel
theorem dL_law_975 : decode cL_law 975 = .ok (.aload_n 0, 1) := by decide +kernel
theorem dL_law_976 : decode cL_law 976 = .ok (.iload_n 3, 1) := by decide +kernel
theorem dL_law_977 : decode cL_law 977 = .ok (.iconst 5, 1) := by decide +kernel
theorem dL_law_978 : decode cL_law 978 = .ok (.iadd, 1) := by decide +kernel
theorem dL_law_979 : decode cL_law 979 = .ok (.iaload, 1) := by decide +kernel
theorem dL_law_980 : decode cL_law 980 = .ok (.invokevirtual 123, 3) := by decide +kernel
theorem dL_law_983 : decode cL_law 983 = .ok (.aload_n 2, 1) := by decide +kernel
theorem dL_law_984 : decode cL_law 984 = .ok (.aload_n 0, 1) := by decide +kernel
theorem dL_law_985 : decode cL_law 985 = .ok (.iload_n 3, 1) := by decide +kernel
theorem dL_law_986 : decode cL_law 986 = .ok (.iconst 1, 1) := by decide +kernel
theorem dL_law_987 : decode cL_law 987 = .ok (.iadd, 1) := by decide +kernel
theorem dL_law_988 : decode cL_law 988 = .ok (.iaload, 1) := by decide +kernel
theorem dL_law_989 : decode cL_law 989 = .ok (.aload_n 0, 1) := by decide +kernel
theorem dL_law_990 : decode cL_law 990 = .ok (.iload_n 3, 1) := by decide +kernel
theorem dL_law_991 : decode cL_law 991 = .ok (.iconst 2, 1) := by decide +kernel
theorem dL_law_992 : decode cL_law 992 = .ok (.iadd, 1) := by decide +kernel
theorem dL_law_993 : decode cL_law 993 = .ok (.iaload, 1) := by decide +kernel
theorem dL_law_994 : decode cL_law 994 = .ok (.aload_n 0, 1) := by decide +kernel
theorem dL_law_995 : decode cL_law 995 = .ok (.iload_n 3, 1) := by decide +kernel
theorem dL_law_996 : decode cL_law 996 = .ok (.iconst 3, 1) := by decide +kernel
theorem dL_law_997 : decode cL_law 997 = .ok (.iadd, 1) := by decide +kernel
theorem dL_law_998 : decode cL_law 998 = .ok (.iaload, 1) := by decide +kernel
theorem dL_law_999 : decode cL_law 999 = .ok (.aload_n 0, 1) := by decide +kernel
theorem dL_law_1000 : decode cL_law 1000 = .ok (.iload_n 3, 1) := by decide +kernel
theorem dL_law_1001 : decode cL_law 1001 = .ok (.iconst 4, 1) := by decide +kernel
theorem dL_law_1002 : decode cL_law 1002 = .ok (.iadd, 1) := by decide +kernel
theorem dL_law_1003 : decode cL_law 1003 = .ok (.iaload, 1) := by decide +kernel
theorem dL_law_1004 : decode cL_law 1004 = .ok (.aload_n 0, 1) := by decide +kernel
theorem dL_law_1005 : decode cL_law 1005 = .ok (.iload_n 3, 1) := by decide +kernel
theorem dL_law_1006 : decode cL_law 1006 = .ok (.iconst 5, 1) := by decide +kernel
theorem dL_law_1007 : decode cL_law 1007 = .ok (.iadd, 1) := by decide +kernel
theorem dL_law_1008 : decode cL_law 1008 = .ok (.iaload, 1) := by decide +kernel
theorem dL_law_1009 : decode cL_law 1009 = .ok (.invokevirtual 127, 3) := by decide +kernel
theorem dL_law_1012 : decode cL_law 1012 = .ok (.if_icmp .eq 91, 3) := by decide +kernel
theorem dL_law_1015 : decode cL_law 1015 = .ok (.iconst 0, 1) := by decide +kernel
theorem dL_law_1016 : decode cL_law 1016 = .ok (.ireturn, 1) := by decide +kernel
theorem dL_law_1017 : decode cL_law 1017 = .ok (.aload_n 1, 1) := by decide +kernel
theorem dL_law_1018 : decode cL_law 1018 = .ok (.aload_n 0, 1) := by decide +kernel
theorem dL_law_1019 : decode cL_law 1019 = .ok (.iload_n 3, 1) := by decide +kernel
theorem dL_law_1020 : decode cL_law 1020 = .ok (.iconst 1, 1) := by decide +kernel
theorem dL_law_1021 : decode cL_law 1021 = .ok (.iadd, 1) := by decide +kernel
theorem dL_law_1022 : decode cL_law 1022 = .ok (.iaload, 1) := by decide +kernel
theorem dL_law_1023 : decode cL_law 1023 = .ok (.aload_n 0, 1) := by decide +kernel
theorem dL_law_1024 : decode cL_law 1024 = .ok (.iload_n 3, 1) := by decide +kernel
theorem dL_law_1025 : decode cL_law 1025 = .ok (.iconst 2, 1) := by decide +kernel
theorem dL_law_1026 : decode cL_law 1026 = .ok (.iadd, 1) := by decide +kernel
theorem dL_law_1027 : decode cL_law 1027 = .ok (.iaload, 1) := by decide +kernel
theorem dL_law_1028 : decode cL_law 1028 = .ok (.aload_n 0, 1) := by decide +kernel
theorem dL_law_1029 : decode cL_law 1029 = .ok (.iload_n 3, 1) := by decide +kernel
theorem dL_law_1030 : decode cL_law 1030 = .ok (.iconst 3, 1) := by decide +kernel
theorem dL_law_1031 : decode cL_law 1031 = .ok (.iadd, 1) := by decide +kernel
theorem dL_law_1032 : decode cL_law 1032 = .ok (.iaload, 1) := by decide +kernel
theorem dL_law_1033 : decode cL_law 1033 = .ok (.aload_n 0, 1) := by decide +kernel
theorem dL_law_1034 : decode cL_law 1034 = .ok (.iload_n 3, 1) := by decide +kernel
theorem dL_law_1035 : decode cL_law 1035 = .ok (.iconst 4, 1) := by decide +kernel
theorem dL_law_1036 : decode cL_law 1036 = .ok (.iadd, 1) := by decide +kernel
theorem dL_law_1037 : decode cL_law 1037 = .ok (.iaload, 1) := by decide +kernel
theorem dL_law_1038 : decode cL_law 1038 = .ok (.invokevirtual 128, 3) := by decide +kernel
theorem dL_law_1041 : decode cL_law 1041 = .ok (.aload_n 2, 1) := by decide +kernel
theorem dL_law_1042 : decode cL_law 1042 = .ok (.aload_n 0, 1) := by decide +kernel
theorem dL_law_1043 : decode cL_law 1043 = .ok (.iload_n 3, 1) := by decide +kernel
theorem dL_law_1044 : decode cL_law 1044 = .ok (.iconst 1, 1) := by decide +kernel
theorem dL_law_1045 : decode cL_law 1045 = .ok (.iadd, 1) := by decide +kernel
theorem dL_law_1046 : decode cL_law 1046 = .ok (.iaload, 1) := by decide +kernel
theorem dL_law_1047 : decode cL_law 1047 = .ok (.aload_n 0, 1) := by decide +kernel
theorem dL_law_1048 : decode cL_law 1048 = .ok (.iload_n 3, 1) := by decide +kernel
theorem dL_law_1049 : decode cL_law 1049 = .ok (.iconst 2, 1) := by decide +kernel
theorem dL_law_1050 : decode cL_law 1050 = .ok (.iadd, 1) := by decide +kernel
theorem dL_law_1051 : decode cL_law 1051 = .ok (.iaload, 1) := by decide +kernel
theorem dL_law_1052 : decode cL_law 1052 = .ok (.aload_n 0, 1) := by decide +kernel
theorem dL_law_1053 : decode cL_law 1053 = .ok (.iload_n 3, 1) := by decide +kernel
theorem dL_law_1054 : decode cL_law 1054 = .ok (.iconst 3, 1) := by decide +kernel
theorem dL_law_1055 : decode cL_law 1055 = .ok (.iadd, 1) := by decide +kernel
theorem dL_law_1056 : decode cL_law 1056 = .ok (.iaload, 1) := by decide +kernel
theorem dL_law_1057 : decode cL_law 1057 = .ok (.aload_n 0, 1) := by decide +kernel
theorem dL_law_1058 : decode cL_law 1058 = .ok (.iload_n 3, 1) := by decide +kernel
theorem dL_law_1059 : decode cL_law 1059 = .ok (.iconst 4, 1) := by decide +kernel
theorem dL_law_1060 : decode cL_law 1060 = .ok (.iadd, 1) := by decide +kernel
theorem dL_law_1061 : decode cL_law 1061 = .ok (.iaload, 1) := by decide +kernel
theorem dL_law_1062 : decode cL_law 1062 = .ok (.invokevirtual 132, 3) := by decide +kernel
theorem dL_law_1065 : decode cL_law 1065 = .ok (.if_icmp .eq 38, 3) := by decide +kernel
theorem dL_law_1068 : decode cL_law 1068 = .ok (.iconst 0, 1) := by decide +kernel
theorem dL_law_1069 : decode cL_law 1069 = .ok (.ireturn, 1) := by decide +kernel
theorem dL_law_1070 : decode cL_law 1070 = .ok (.aload_n 1, 1) := by decide +kernel
theorem dL_law_1071 : decode cL_law 1071 = .ok (.aload_n 0, 1) := by decide +kernel
theorem dL_law_1072 : decode cL_law 1072 = .ok (.iload_n 3, 1) := by decide +kernel
theorem dL_law_1073 : decode cL_law 1073 = .ok (.iconst 1, 1) := by decide +kernel
theorem dL_law_1074 : decode cL_law 1074 = .ok (.iadd, 1) := by decide +kernel
theorem dL_law_1075 : decode cL_law 1075 = .ok (.iaload, 1) := by decide +kernel
theorem dL_law_1076 : decode cL_law 1076 = .ok (.aload_n 0, 1) := by decide +kernel
theorem dL_law_1077 : decode cL_law 1077 = .ok (.iload_n 3, 1) := by decide +kernel
theorem dL_law_1078 : decode cL_law 1078 = .ok (.iconst 2, 1) := by decide +kernel
end
section
theorem dL_law_1079 : decode cL_law 1079 = .ok (.iadd, 1) := by decide +kernel
theorem dL_law_1080 : decode cL_law 1080 = .ok (.iaload, 1) := by decide +kernel
theorem dL_law_1081 : decode cL_law 1081 = .ok (.invokevirtual 133, 3) := by decide +kernel
theorem dL_law_1084 : decode cL_law 1084 = .ok (.aload_n 2, 1) := by decide +kernel
theorem dL_law_1085 : decode cL_law 1085 = .ok (.aload_n 0, 1) := by decide +kernel
theorem dL_law_1086 : decode cL_law 1086 = .ok (.iload_n 3, 1) := by decide +kernel
theorem dL_law_1087 : decode cL_law 1087 = .ok (.iconst 1, 1) := by decide +kernel
theorem dL_law_1088 : decode cL_law 1088 = .ok (.iadd, 1) := by decide +kernel
theorem dL_law_1089 : decode cL_law 1089 = .ok (.iaload, 1) := by decide +kernel
theorem dL_law_1090 : decode cL_law 1090 = .ok (.aload_n 0, 1) := by decide +kernel
theorem dL_law_1091 : decode cL_law 1091 = .ok (.iload_n 3, 1) := by decide +kernel
theorem dL_law_1092 : decode cL_law 1092 = .ok (.iconst 2, 1) := by decide +kernel
theorem dL_law_1093 : decode cL_law 1093 = .ok (.iadd, 1) := by decide +kernel
theorem dL_law_1094 : decode cL_law 1094 = .ok (.iaload, 1) := by decide +kernel
theorem dL_law_1095 : decode cL_law 1095 = .ok (.invokevirtual 136, 3) := by decide +kernel
theorem dL_law_1098 : decode cL_law 1098 = .ok (.if_icmp .eq 5, 3) := by decide +kernel
theorem dL_law_1101 : decode cL_law 1101 = .ok (.iconst 0, 1) := by decide +kernel
theorem dL_law_1102 : decode cL_law 1102 = .ok (.ireturn, 1) := by decide +kernel
theorem dL_law_1103 : decode cL_law 1103 = .ok (.iinc 3 6, 3) := by decide +kernel
theorem dL_law_1106 : decode cL_law 1106 = .ok (.goto (-1088), 3) := by decide +kernel
theorem dL_law_1109 : decode cL_law 1109 = .ok (.iconst 1, 1) := by decide +kernel
theorem dL_law_1110 : decode cL_law 1110 = .ok (.ireturn, 1) := by decide +kernel
end
section
theorem i_vc : Claimed_1_1 ∧ Claimed_1_2 := sorry
end
