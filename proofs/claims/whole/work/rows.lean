section
-- ===== PART A: goes FIRST, ahead of the names: the tables' words, and 'selects' of the private methods out of them =====
/-- a private method of a class that the tables say can be made, by its rows of tables_1 -/
def lw_okq (q : MethodName × Nat) : Prop := (q.1.cls ≠ "java/lang/invoke/MethodHandle" ∧ q.1.cls ≠ "java/lang/invoke/VarHandle") ∧ Cond.instantiable q.1.cls q.2 ∈ tables_1 ∧ Cond.privateMethod q.1 ∈ tables_1 ∧ Cond.instanceMethod q.1 ∈ tables_1
theorem lw_p0 : lw_okq (⟨"OtherSide", "cardsFrom", "(LOtherSide$Shelf;II)I"⟩, 9) := ⟨⟨by decide +kernel, by decide +kernel⟩, List.mem_of_getElem? (i := 13) (by decide +kernel), List.mem_of_getElem? (i := 303) (by decide +kernel), List.mem_of_getElem? (i := 304) (by decide +kernel)⟩
theorem lw_p1 : lw_okq (⟨"OtherSide$Things", "keepChange", "(IIII)V"⟩, 9) := ⟨⟨by decide +kernel, by decide +kernel⟩, List.mem_of_getElem? (i := 21) (by decide +kernel), List.mem_of_getElem? (i := 320) (by decide +kernel), List.mem_of_getElem? (i := 321) (by decide +kernel)⟩
theorem lw_p2 : lw_okq (⟨"OtherSide$Law", "readLine", "()V"⟩, 15) := ⟨⟨by decide +kernel, by decide +kernel⟩, List.mem_of_getElem? (i := 71) (by decide +kernel), List.mem_of_getElem? (i := 350) (by decide +kernel), List.mem_of_getElem? (i := 351) (by decide +kernel)⟩
theorem lw_p3 : lw_okq (⟨"OtherSide$Law", "readJoined", "(II)V"⟩, 15) := ⟨⟨by decide +kernel, by decide +kernel⟩, List.mem_of_getElem? (i := 71) (by decide +kernel), List.mem_of_getElem? (i := 354) (by decide +kernel), List.mem_of_getElem? (i := 355) (by decide +kernel)⟩
theorem lw_p4 : lw_okq (⟨"OtherSide$Law", "readTighter", "(II)V"⟩, 15) := ⟨⟨by decide +kernel, by decide +kernel⟩, List.mem_of_getElem? (i := 71) (by decide +kernel), List.mem_of_getElem? (i := 358) (by decide +kernel), List.mem_of_getElem? (i := 359) (by decide +kernel)⟩
theorem lw_p5 : lw_okq (⟨"OtherSide$Law", "readOperand", "(I)V"⟩, 15) := ⟨⟨by decide +kernel, by decide +kernel⟩, List.mem_of_getElem? (i := 71) (by decide +kernel), List.mem_of_getElem? (i := 362) (by decide +kernel), List.mem_of_getElem? (i := 363) (by decide +kernel)⟩
theorem lw_p6 : lw_okq (⟨"OtherSide$Law", "sign", "()I"⟩, 15) := ⟨⟨by decide +kernel, by decide +kernel⟩, List.mem_of_getElem? (i := 71) (by decide +kernel), List.mem_of_getElem? (i := 366) (by decide +kernel), List.mem_of_getElem? (i := 367) (by decide +kernel)⟩
theorem lw_p7 : lw_okq (⟨"OtherSide$Law", "readNumber", "()V"⟩, 15) := ⟨⟨by decide +kernel, by decide +kernel⟩, List.mem_of_getElem? (i := 71) (by decide +kernel), List.mem_of_getElem? (i := 373) (by decide +kernel), List.mem_of_getElem? (i := 374) (by decide +kernel)⟩
theorem lw_p8 : lw_okq (⟨"OtherSide$Law", "emit", "(I)V"⟩, 15) := ⟨⟨by decide +kernel, by decide +kernel⟩, List.mem_of_getElem? (i := 71) (by decide +kernel), List.mem_of_getElem? (i := 377) (by decide +kernel), List.mem_of_getElem? (i := 378) (by decide +kernel)⟩
theorem lw_p9 : lw_okq (⟨"OtherSide$Law", "fail", "()V"⟩, 15) := ⟨⟨by decide +kernel, by decide +kernel⟩, List.mem_of_getElem? (i := 71) (by decide +kernel), List.mem_of_getElem? (i := 381) (by decide +kernel), List.mem_of_getElem? (i := 382) (by decide +kernel)⟩
theorem lw_p10 : lw_okq (⟨"OtherSide$Law", "takes", "(I)Z"⟩, 15) := ⟨⟨by decide +kernel, by decide +kernel⟩, List.mem_of_getElem? (i := 71) (by decide +kernel), List.mem_of_getElem? (i := 385) (by decide +kernel), List.mem_of_getElem? (i := 386) (by decide +kernel)⟩
theorem lw_p11 : lw_okq (⟨"OtherSide$Law", "readBehind", "(II)V"⟩, 15) := ⟨⟨by decide +kernel, by decide +kernel⟩, List.mem_of_getElem? (i := 71) (by decide +kernel), List.mem_of_getElem? (i := 389) (by decide +kernel), List.mem_of_getElem? (i := 390) (by decide +kernel)⟩
theorem lw_p12 : lw_okq (⟨"OtherSide$Showings", "weighAmong", "(LOtherSide$Things;LOtherSide$Law;II)V"⟩, 1) := ⟨⟨by decide +kernel, by decide +kernel⟩, List.mem_of_getElem? (i := 123) (by decide +kernel), List.mem_of_getElem? (i := 404) (by decide +kernel), List.mem_of_getElem? (i := 405) (by decide +kernel)⟩
theorem lw_p13 : lw_okq (⟨"OtherSide$Law", "push", "(I)V"⟩, 15) := ⟨⟨by decide +kernel, by decide +kernel⟩, List.mem_of_getElem? (i := 71) (by decide +kernel), List.mem_of_getElem? (i := 420) (by decide +kernel), List.mem_of_getElem? (i := 421) (by decide +kernel)⟩
theorem lw_p14 : lw_okq (⟨"OtherSide$Law", "pop", "()I"⟩, 15) := ⟨⟨by decide +kernel, by decide +kernel⟩, List.mem_of_getElem? (i := 71) (by decide +kernel), List.mem_of_getElem? (i := 424) (by decide +kernel), List.mem_of_getElem? (i := 425) (by decide +kernel)⟩
theorem lw_p15 : lw_okq (⟨"OtherSide$Law", "workOut", "(I)V"⟩, 15) := ⟨⟨by decide +kernel, by decide +kernel⟩, List.mem_of_getElem? (i := 71) (by decide +kernel), List.mem_of_getElem? (i := 428) (by decide +kernel), List.mem_of_getElem? (i := 429) (by decide +kernel)⟩
def lw_privs_1 : List (MethodName × Nat) := [(⟨"OtherSide", "cardsFrom", "(LOtherSide$Shelf;II)I"⟩, 9), (⟨"OtherSide$Things", "keepChange", "(IIII)V"⟩, 9), (⟨"OtherSide$Law", "readLine", "()V"⟩, 15), (⟨"OtherSide$Law", "readJoined", "(II)V"⟩, 15), (⟨"OtherSide$Law", "readTighter", "(II)V"⟩, 15), (⟨"OtherSide$Law", "readOperand", "(I)V"⟩, 15), (⟨"OtherSide$Law", "sign", "()I"⟩, 15), (⟨"OtherSide$Law", "readNumber", "()V"⟩, 15), (⟨"OtherSide$Law", "emit", "(I)V"⟩, 15), (⟨"OtherSide$Law", "fail", "()V"⟩, 15), (⟨"OtherSide$Law", "takes", "(I)Z"⟩, 15), (⟨"OtherSide$Law", "readBehind", "(II)V"⟩, 15), (⟨"OtherSide$Showings", "weighAmong", "(LOtherSide$Things;LOtherSide$Law;II)V"⟩, 1), (⟨"OtherSide$Law", "push", "(I)V"⟩, 15), (⟨"OtherSide$Law", "pop", "()I"⟩, 15), (⟨"OtherSide$Law", "workOut", "(I)V"⟩, 15)]
theorem lw_r1 : ∀ q ∈ lw_privs_1, lw_okq q := List.forall_mem_cons.mpr ⟨lw_p0, List.forall_mem_cons.mpr ⟨lw_p1, List.forall_mem_cons.mpr ⟨lw_p2, List.forall_mem_cons.mpr ⟨lw_p3, List.forall_mem_cons.mpr ⟨lw_p4, List.forall_mem_cons.mpr ⟨lw_p5, List.forall_mem_cons.mpr ⟨lw_p6, List.forall_mem_cons.mpr ⟨lw_p7, List.forall_mem_cons.mpr ⟨lw_p8, List.forall_mem_cons.mpr ⟨lw_p9, List.forall_mem_cons.mpr ⟨lw_p10, List.forall_mem_cons.mpr ⟨lw_p11, List.forall_mem_cons.mpr ⟨lw_p12, List.forall_mem_cons.mpr ⟨lw_p13, List.forall_mem_cons.mpr ⟨lw_p14, List.forall_mem_cons.mpr ⟨lw_p15, fun _ h => absurd h List.not_mem_nil⟩⟩⟩⟩⟩⟩⟩⟩⟩⟩⟩⟩⟩⟩⟩⟩
theorem lw_p16 : lw_okq (⟨"OtherSide$Showings", "ofColour", "(LOtherSide$Things;II)I"⟩, 1) := ⟨⟨by decide +kernel, by decide +kernel⟩, List.mem_of_getElem? (i := 123) (by decide +kernel), List.mem_of_getElem? (i := 460) (by decide +kernel), List.mem_of_getElem? (i := 461) (by decide +kernel)⟩
theorem lw_p17 : lw_okq (⟨"OtherSide$Showings", "ofSide", "(II)I"⟩, 1) := ⟨⟨by decide +kernel, by decide +kernel⟩, List.mem_of_getElem? (i := 123) (by decide +kernel), List.mem_of_getElem? (i := 465) (by decide +kernel), List.mem_of_getElem? (i := 466) (by decide +kernel)⟩
theorem lw_p18 : lw_okq (⟨"OtherSide", "refusedBytes", "(I)I"⟩, 9) := ⟨⟨by decide +kernel, by decide +kernel⟩, List.mem_of_getElem? (i := 13) (by decide +kernel), List.mem_of_getElem? (i := 500) (by decide +kernel), List.mem_of_getElem? (i := 501) (by decide +kernel)⟩
theorem lw_p19 : lw_okq (⟨"OtherSide$Showings", "waysWith", "(LOtherSide$Things;ILOtherSide$Shelf;)J"⟩, 1) := ⟨⟨by decide +kernel, by decide +kernel⟩, List.mem_of_getElem? (i := 123) (by decide +kernel), List.mem_of_getElem? (i := 509) (by decide +kernel), List.mem_of_getElem? (i := 510) (by decide +kernel)⟩
theorem lw_p20 : lw_okq (⟨"OtherSide$Odds", "isOrder", "(I)Z"⟩, 3) := ⟨⟨by decide +kernel, by decide +kernel⟩, List.mem_of_getElem? (i := 135) (by decide +kernel), List.mem_of_getElem? (i := 565) (by decide +kernel), List.mem_of_getElem? (i := 566) (by decide +kernel)⟩
theorem lw_p21 : lw_okq (⟨"OtherSide$Drawings", "lot", "(I)I"⟩, 9) := ⟨⟨by decide +kernel, by decide +kernel⟩, List.mem_of_getElem? (i := 153) (by decide +kernel), List.mem_of_getElem? (i := 621) (by decide +kernel), List.mem_of_getElem? (i := 622) (by decide +kernel)⟩
theorem lw_p22 : lw_okq (⟨"OtherSide$Acts", "run", "(IIII)I"⟩, 6) := ⟨⟨by decide +kernel, by decide +kernel⟩, List.mem_of_getElem? (i := 191) (by decide +kernel), List.mem_of_getElem? (i := 712) (by decide +kernel), List.mem_of_getElem? (i := 713) (by decide +kernel)⟩
theorem lw_p23 : lw_okq (⟨"OtherSide$Acts", "note", "(I)V"⟩, 6) := ⟨⟨by decide +kernel, by decide +kernel⟩, List.mem_of_getElem? (i := 191) (by decide +kernel), List.mem_of_getElem? (i := 723) (by decide +kernel), List.mem_of_getElem? (i := 724) (by decide +kernel)⟩
theorem lw_p24 : lw_okq (⟨"OtherSide$Acts", "own", "(III)I"⟩, 6) := ⟨⟨by decide +kernel, by decide +kernel⟩, List.mem_of_getElem? (i := 191) (by decide +kernel), List.mem_of_getElem? (i := 727) (by decide +kernel), List.mem_of_getElem? (i := 728) (by decide +kernel)⟩
theorem lw_p25 : lw_okq (⟨"OtherSide$Acts", "above", "(IIII)I"⟩, 6) := ⟨⟨by decide +kernel, by decide +kernel⟩, List.mem_of_getElem? (i := 191) (by decide +kernel), List.mem_of_getElem? (i := 731) (by decide +kernel), List.mem_of_getElem? (i := 732) (by decide +kernel)⟩
theorem lw_p26 : lw_okq (⟨"OtherSide", "refusedElement", "(II)I"⟩, 9) := ⟨⟨by decide +kernel, by decide +kernel⟩, List.mem_of_getElem? (i := 13) (by decide +kernel), List.mem_of_getElem? (i := 756) (by decide +kernel), List.mem_of_getElem? (i := 757) (by decide +kernel)⟩
theorem lw_p27 : lw_okq (⟨"OtherSideModel", "addCard", "(III)I"⟩, 58) := ⟨⟨by decide +kernel, by decide +kernel⟩, List.mem_of_getElem? (i := 788) (by decide +kernel), List.mem_of_getElem? (i := 983) (by decide +kernel), List.mem_of_getElem? (i := 984) (by decide +kernel)⟩
theorem lw_p28 : lw_okq (⟨"OtherSideModel", "lays", "(III)V"⟩, 58) := ⟨⟨by decide +kernel, by decide +kernel⟩, List.mem_of_getElem? (i := 788) (by decide +kernel), List.mem_of_getElem? (i := 999) (by decide +kernel), List.mem_of_getElem? (i := 1000) (by decide +kernel)⟩
theorem lw_p29 : lw_okq (⟨"OtherSideModel", "isThing", "(II)Z"⟩, 58) := ⟨⟨by decide +kernel, by decide +kernel⟩, List.mem_of_getElem? (i := 788) (by decide +kernel), List.mem_of_getElem? (i := 1011) (by decide +kernel), List.mem_of_getElem? (i := 1012) (by decide +kernel)⟩
theorem lw_p30 : lw_okq (⟨"OtherSideModel", "isCard", "(I)Z"⟩, 58) := ⟨⟨by decide +kernel, by decide +kernel⟩, List.mem_of_getElem? (i := 788) (by decide +kernel), List.mem_of_getElem? (i := 1015) (by decide +kernel), List.mem_of_getElem? (i := 1016) (by decide +kernel)⟩
theorem lw_p31 : lw_okq (⟨"OtherSideModel", "changes", "(III)I"⟩, 58) := ⟨⟨by decide +kernel, by decide +kernel⟩, List.mem_of_getElem? (i := 788) (by decide +kernel), List.mem_of_getElem? (i := 1022) (by decide +kernel), List.mem_of_getElem? (i := 1023) (by decide +kernel)⟩
def lw_privs_2 : List (MethodName × Nat) := [(⟨"OtherSide$Showings", "ofColour", "(LOtherSide$Things;II)I"⟩, 1), (⟨"OtherSide$Showings", "ofSide", "(II)I"⟩, 1), (⟨"OtherSide", "refusedBytes", "(I)I"⟩, 9), (⟨"OtherSide$Showings", "waysWith", "(LOtherSide$Things;ILOtherSide$Shelf;)J"⟩, 1), (⟨"OtherSide$Odds", "isOrder", "(I)Z"⟩, 3), (⟨"OtherSide$Drawings", "lot", "(I)I"⟩, 9), (⟨"OtherSide$Acts", "run", "(IIII)I"⟩, 6), (⟨"OtherSide$Acts", "note", "(I)V"⟩, 6), (⟨"OtherSide$Acts", "own", "(III)I"⟩, 6), (⟨"OtherSide$Acts", "above", "(IIII)I"⟩, 6), (⟨"OtherSide", "refusedElement", "(II)I"⟩, 9), (⟨"OtherSideModel", "addCard", "(III)I"⟩, 58), (⟨"OtherSideModel", "lays", "(III)V"⟩, 58), (⟨"OtherSideModel", "isThing", "(II)Z"⟩, 58), (⟨"OtherSideModel", "isCard", "(I)Z"⟩, 58), (⟨"OtherSideModel", "changes", "(III)I"⟩, 58)]
theorem lw_r2 : ∀ q ∈ lw_privs_2, lw_okq q := List.forall_mem_cons.mpr ⟨lw_p16, List.forall_mem_cons.mpr ⟨lw_p17, List.forall_mem_cons.mpr ⟨lw_p18, List.forall_mem_cons.mpr ⟨lw_p19, List.forall_mem_cons.mpr ⟨lw_p20, List.forall_mem_cons.mpr ⟨lw_p21, List.forall_mem_cons.mpr ⟨lw_p22, List.forall_mem_cons.mpr ⟨lw_p23, List.forall_mem_cons.mpr ⟨lw_p24, List.forall_mem_cons.mpr ⟨lw_p25, List.forall_mem_cons.mpr ⟨lw_p26, List.forall_mem_cons.mpr ⟨lw_p27, List.forall_mem_cons.mpr ⟨lw_p28, List.forall_mem_cons.mpr ⟨lw_p29, List.forall_mem_cons.mpr ⟨lw_p30, List.forall_mem_cons.mpr ⟨lw_p31, fun _ h => absurd h List.not_mem_nil⟩⟩⟩⟩⟩⟩⟩⟩⟩⟩⟩⟩⟩⟩⟩⟩
theorem lw_p32 : lw_okq (⟨"OtherSideModel", "valueAt", "(II)I"⟩, 58) := ⟨⟨by decide +kernel, by decide +kernel⟩, List.mem_of_getElem? (i := 788) (by decide +kernel), List.mem_of_getElem? (i := 1026) (by decide +kernel), List.mem_of_getElem? (i := 1027) (by decide +kernel)⟩
theorem lw_p33 : lw_okq (⟨"OtherSideModel", "allCards", "()I"⟩, 58) := ⟨⟨by decide +kernel, by decide +kernel⟩, List.mem_of_getElem? (i := 788) (by decide +kernel), List.mem_of_getElem? (i := 1034) (by decide +kernel), List.mem_of_getElem? (i := 1035) (by decide +kernel)⟩
theorem lw_p34 : lw_okq (⟨"OtherSideModel", "readText", "(I)I"⟩, 58) := ⟨⟨by decide +kernel, by decide +kernel⟩, List.mem_of_getElem? (i := 788) (by decide +kernel), List.mem_of_getElem? (i := 1046) (by decide +kernel), List.mem_of_getElem? (i := 1047) (by decide +kernel)⟩
theorem lw_p35 : lw_okq (⟨"OtherSideModel", "line", "()V"⟩, 58) := ⟨⟨by decide +kernel, by decide +kernel⟩, List.mem_of_getElem? (i := 788) (by decide +kernel), List.mem_of_getElem? (i := 1050) (by decide +kernel), List.mem_of_getElem? (i := 1051) (by decide +kernel)⟩
theorem lw_p36 : lw_okq (⟨"OtherSideModel", "either", "()V"⟩, 58) := ⟨⟨by decide +kernel, by decide +kernel⟩, List.mem_of_getElem? (i := 788) (by decide +kernel), List.mem_of_getElem? (i := 1054) (by decide +kernel), List.mem_of_getElem? (i := 1055) (by decide +kernel)⟩
theorem lw_p37 : lw_okq (⟨"OtherSideModel", "both", "()V"⟩, 58) := ⟨⟨by decide +kernel, by decide +kernel⟩, List.mem_of_getElem? (i := 788) (by decide +kernel), List.mem_of_getElem? (i := 1058) (by decide +kernel), List.mem_of_getElem? (i := 1059) (by decide +kernel)⟩
theorem lw_p38 : lw_okq (⟨"OtherSideModel", "compared", "()V"⟩, 58) := ⟨⟨by decide +kernel, by decide +kernel⟩, List.mem_of_getElem? (i := 788) (by decide +kernel), List.mem_of_getElem? (i := 1062) (by decide +kernel), List.mem_of_getElem? (i := 1063) (by decide +kernel)⟩
theorem lw_p39 : lw_okq (⟨"OtherSideModel", "sum", "()V"⟩, 58) := ⟨⟨by decide +kernel, by decide +kernel⟩, List.mem_of_getElem? (i := 788) (by decide +kernel), List.mem_of_getElem? (i := 1066) (by decide +kernel), List.mem_of_getElem? (i := 1067) (by decide +kernel)⟩
theorem lw_p40 : lw_okq (⟨"OtherSideModel", "product", "()V"⟩, 58) := ⟨⟨by decide +kernel, by decide +kernel⟩, List.mem_of_getElem? (i := 788) (by decide +kernel), List.mem_of_getElem? (i := 1070) (by decide +kernel), List.mem_of_getElem? (i := 1071) (by decide +kernel)⟩
theorem lw_p41 : lw_okq (⟨"OtherSideModel", "operand", "()V"⟩, 58) := ⟨⟨by decide +kernel, by decide +kernel⟩, List.mem_of_getElem? (i := 788) (by decide +kernel), List.mem_of_getElem? (i := 1074) (by decide +kernel), List.mem_of_getElem? (i := 1075) (by decide +kernel)⟩
theorem lw_p42 : lw_okq (⟨"OtherSideModel", "look", "()I"⟩, 58) := ⟨⟨by decide +kernel, by decide +kernel⟩, List.mem_of_getElem? (i := 788) (by decide +kernel), List.mem_of_getElem? (i := 1078) (by decide +kernel), List.mem_of_getElem? (i := 1079) (by decide +kernel)⟩
theorem lw_p43 : lw_okq (⟨"OtherSideModel", "addStep", "(II)V"⟩, 58) := ⟨⟨by decide +kernel, by decide +kernel⟩, List.mem_of_getElem? (i := 788) (by decide +kernel), List.mem_of_getElem? (i := 1085) (by decide +kernel), List.mem_of_getElem? (i := 1086) (by decide +kernel)⟩
theorem lw_p44 : lw_okq (⟨"OtherSideModel", "opens", "()Z"⟩, 58) := ⟨⟨by decide +kernel, by decide +kernel⟩, List.mem_of_getElem? (i := 788) (by decide +kernel), List.mem_of_getElem? (i := 1089) (by decide +kernel), List.mem_of_getElem? (i := 1090) (by decide +kernel)⟩
theorem lw_p45 : lw_okq (⟨"OtherSideModel", "faulty", "()V"⟩, 58) := ⟨⟨by decide +kernel, by decide +kernel⟩, List.mem_of_getElem? (i := 788) (by decide +kernel), List.mem_of_getElem? (i := 1093) (by decide +kernel), List.mem_of_getElem? (i := 1094) (by decide +kernel)⟩
theorem lw_p46 : lw_okq (⟨"OtherSideModel", "figure", "()V"⟩, 58) := ⟨⟨by decide +kernel, by decide +kernel⟩, List.mem_of_getElem? (i := 788) (by decide +kernel), List.mem_of_getElem? (i := 1097) (by decide +kernel), List.mem_of_getElem? (i := 1098) (by decide +kernel)⟩
theorem lw_p47 : lw_okq (⟨"OtherSideModel", "findWeights", "()V"⟩, 58) := ⟨⟨by decide +kernel, by decide +kernel⟩, List.mem_of_getElem? (i := 788) (by decide +kernel), List.mem_of_getElem? (i := 1105) (by decide +kernel), List.mem_of_getElem? (i := 1106) (by decide +kernel)⟩
def lw_privs_3 : List (MethodName × Nat) := [(⟨"OtherSideModel", "valueAt", "(II)I"⟩, 58), (⟨"OtherSideModel", "allCards", "()I"⟩, 58), (⟨"OtherSideModel", "readText", "(I)I"⟩, 58), (⟨"OtherSideModel", "line", "()V"⟩, 58), (⟨"OtherSideModel", "either", "()V"⟩, 58), (⟨"OtherSideModel", "both", "()V"⟩, 58), (⟨"OtherSideModel", "compared", "()V"⟩, 58), (⟨"OtherSideModel", "sum", "()V"⟩, 58), (⟨"OtherSideModel", "product", "()V"⟩, 58), (⟨"OtherSideModel", "operand", "()V"⟩, 58), (⟨"OtherSideModel", "look", "()I"⟩, 58), (⟨"OtherSideModel", "addStep", "(II)V"⟩, 58), (⟨"OtherSideModel", "opens", "()Z"⟩, 58), (⟨"OtherSideModel", "faulty", "()V"⟩, 58), (⟨"OtherSideModel", "figure", "()V"⟩, 58), (⟨"OtherSideModel", "findWeights", "()V"⟩, 58)]
theorem lw_r3 : ∀ q ∈ lw_privs_3, lw_okq q := List.forall_mem_cons.mpr ⟨lw_p32, List.forall_mem_cons.mpr ⟨lw_p33, List.forall_mem_cons.mpr ⟨lw_p34, List.forall_mem_cons.mpr ⟨lw_p35, List.forall_mem_cons.mpr ⟨lw_p36, List.forall_mem_cons.mpr ⟨lw_p37, List.forall_mem_cons.mpr ⟨lw_p38, List.forall_mem_cons.mpr ⟨lw_p39, List.forall_mem_cons.mpr ⟨lw_p40, List.forall_mem_cons.mpr ⟨lw_p41, List.forall_mem_cons.mpr ⟨lw_p42, List.forall_mem_cons.mpr ⟨lw_p43, List.forall_mem_cons.mpr ⟨lw_p44, List.forall_mem_cons.mpr ⟨lw_p45, List.forall_mem_cons.mpr ⟨lw_p46, List.forall_mem_cons.mpr ⟨lw_p47, fun _ h => absurd h List.not_mem_nil⟩⟩⟩⟩⟩⟩⟩⟩⟩⟩⟩⟩⟩⟩⟩⟩
theorem lw_p48 : lw_okq (⟨"OtherSideModel", "ownWeight", "(II)I"⟩, 58) := ⟨⟨by decide +kernel, by decide +kernel⟩, List.mem_of_getElem? (i := 788) (by decide +kernel), List.mem_of_getElem? (i := 1109) (by decide +kernel), List.mem_of_getElem? (i := 1110) (by decide +kernel)⟩
theorem lw_p49 : lw_okq (⟨"OtherSideModel", "gives", "(I)I"⟩, 58) := ⟨⟨by decide +kernel, by decide +kernel⟩, List.mem_of_getElem? (i := 788) (by decide +kernel), List.mem_of_getElem? (i := 1113) (by decide +kernel), List.mem_of_getElem? (i := 1114) (by decide +kernel)⟩
theorem lw_p50 : lw_okq (⟨"OtherSideModel", "worked", "(III)I"⟩, 58) := ⟨⟨by decide +kernel, by decide +kernel⟩, List.mem_of_getElem? (i := 788) (by decide +kernel), List.mem_of_getElem? (i := 1117) (by decide +kernel), List.mem_of_getElem? (i := 1118) (by decide +kernel)⟩
theorem lw_p51 : lw_okq (⟨"OtherSideModel", "allShow", "(II)J"⟩, 58) := ⟨⟨by decide +kernel, by decide +kernel⟩, List.mem_of_getElem? (i := 788) (by decide +kernel), List.mem_of_getElem? (i := 1132) (by decide +kernel), List.mem_of_getElem? (i := 1133) (by decide +kernel)⟩
theorem lw_p52 : lw_okq (⟨"OtherSideModel", "shows", "(II)J"⟩, 58) := ⟨⟨by decide +kernel, by decide +kernel⟩, List.mem_of_getElem? (i := 788) (by decide +kernel), List.mem_of_getElem? (i := 1136) (by decide +kernel), List.mem_of_getElem? (i := 1137) (by decide +kernel)⟩
theorem lw_p53 : lw_okq (⟨"OtherSideModel", "sumOf", "(I)I"⟩, 58) := ⟨⟨by decide +kernel, by decide +kernel⟩, List.mem_of_getElem? (i := 788) (by decide +kernel), List.mem_of_getElem? (i := 1141) (by decide +kernel), List.mem_of_getElem? (i := 1142) (by decide +kernel)⟩
theorem lw_p54 : lw_okq (⟨"OtherSideModel", "rowFault", "(I)I"⟩, 58) := ⟨⟨by decide +kernel, by decide +kernel⟩, List.mem_of_getElem? (i := 788) (by decide +kernel), List.mem_of_getElem? (i := 1170) (by decide +kernel), List.mem_of_getElem? (i := 1171) (by decide +kernel)⟩
theorem lw_p55 : lw_okq (⟨"OtherSideModel", "byteAt", "(II)I"⟩, 58) := ⟨⟨by decide +kernel, by decide +kernel⟩, List.mem_of_getElem? (i := 788) (by decide +kernel), List.mem_of_getElem? (i := 1174) (by decide +kernel), List.mem_of_getElem? (i := 1175) (by decide +kernel)⟩
theorem lw_p56 : lw_okq (⟨"OtherSideModel", "rowShows", "(I)J"⟩, 58) := ⟨⟨by decide +kernel, by decide +kernel⟩, List.mem_of_getElem? (i := 788) (by decide +kernel), List.mem_of_getElem? (i := 1178) (by decide +kernel), List.mem_of_getElem? (i := 1179) (by decide +kernel)⟩
theorem lw_p57 : lw_okq (⟨"OtherSideModel", "lastRed", "(IZ)J"⟩, 58) := ⟨⟨by decide +kernel, by decide +kernel⟩, List.mem_of_getElem? (i := 788) (by decide +kernel), List.mem_of_getElem? (i := 1190) (by decide +kernel), List.mem_of_getElem? (i := 1191) (by decide +kernel)⟩
theorem lw_p58 : lw_okq (⟨"OtherSideModel", "goOrders", "(II)V"⟩, 58) := ⟨⟨by decide +kernel, by decide +kernel⟩, List.mem_of_getElem? (i := 788) (by decide +kernel), List.mem_of_getElem? (i := 1203) (by decide +kernel), List.mem_of_getElem? (i := 1204) (by decide +kernel)⟩
theorem lw_p59 : lw_okq (⟨"OtherSideModel", "meanPrice", "()J"⟩, 58) := ⟨⟨by decide +kernel, by decide +kernel⟩, List.mem_of_getElem? (i := 788) (by decide +kernel), List.mem_of_getElem? (i := 1207) (by decide +kernel), List.mem_of_getElem? (i := 1208) (by decide +kernel)⟩
theorem lw_p60 : lw_okq (⟨"OtherSideModel", "leastLoss", "()I"⟩, 58) := ⟨⟨by decide +kernel, by decide +kernel⟩, List.mem_of_getElem? (i := 788) (by decide +kernel), List.mem_of_getElem? (i := 1230) (by decide +kernel), List.mem_of_getElem? (i := 1231) (by decide +kernel)⟩
theorem lw_p61 : lw_okq (⟨"OtherSideModel", "show", "()I"⟩, 58) := ⟨⟨by decide +kernel, by decide +kernel⟩, List.mem_of_getElem? (i := 788) (by decide +kernel), List.mem_of_getElem? (i := 1238) (by decide +kernel), List.mem_of_getElem? (i := 1239) (by decide +kernel)⟩
theorem lw_p62 : lw_okq (⟨"OtherSideModel", "drawOne", "(I)I"⟩, 58) := ⟨⟨by decide +kernel, by decide +kernel⟩, List.mem_of_getElem? (i := 788) (by decide +kernel), List.mem_of_getElem? (i := 1242) (by decide +kernel), List.mem_of_getElem? (i := 1243) (by decide +kernel)⟩
theorem lw_p63 : lw_okq (⟨"OtherSideModel", "asideMany", "()I"⟩, 58) := ⟨⟨by decide +kernel, by decide +kernel⟩, List.mem_of_getElem? (i := 788) (by decide +kernel), List.mem_of_getElem? (i := 1255) (by decide +kernel), List.mem_of_getElem? (i := 1256) (by decide +kernel)⟩
def lw_privs_4 : List (MethodName × Nat) := [(⟨"OtherSideModel", "ownWeight", "(II)I"⟩, 58), (⟨"OtherSideModel", "gives", "(I)I"⟩, 58), (⟨"OtherSideModel", "worked", "(III)I"⟩, 58), (⟨"OtherSideModel", "allShow", "(II)J"⟩, 58), (⟨"OtherSideModel", "shows", "(II)J"⟩, 58), (⟨"OtherSideModel", "sumOf", "(I)I"⟩, 58), (⟨"OtherSideModel", "rowFault", "(I)I"⟩, 58), (⟨"OtherSideModel", "byteAt", "(II)I"⟩, 58), (⟨"OtherSideModel", "rowShows", "(I)J"⟩, 58), (⟨"OtherSideModel", "lastRed", "(IZ)J"⟩, 58), (⟨"OtherSideModel", "goOrders", "(II)V"⟩, 58), (⟨"OtherSideModel", "meanPrice", "()J"⟩, 58), (⟨"OtherSideModel", "leastLoss", "()I"⟩, 58), (⟨"OtherSideModel", "show", "()I"⟩, 58), (⟨"OtherSideModel", "drawOne", "(I)I"⟩, 58), (⟨"OtherSideModel", "asideMany", "()I"⟩, 58)]
theorem lw_r4 : ∀ q ∈ lw_privs_4, lw_okq q := List.forall_mem_cons.mpr ⟨lw_p48, List.forall_mem_cons.mpr ⟨lw_p49, List.forall_mem_cons.mpr ⟨lw_p50, List.forall_mem_cons.mpr ⟨lw_p51, List.forall_mem_cons.mpr ⟨lw_p52, List.forall_mem_cons.mpr ⟨lw_p53, List.forall_mem_cons.mpr ⟨lw_p54, List.forall_mem_cons.mpr ⟨lw_p55, List.forall_mem_cons.mpr ⟨lw_p56, List.forall_mem_cons.mpr ⟨lw_p57, List.forall_mem_cons.mpr ⟨lw_p58, List.forall_mem_cons.mpr ⟨lw_p59, List.forall_mem_cons.mpr ⟨lw_p60, List.forall_mem_cons.mpr ⟨lw_p61, List.forall_mem_cons.mpr ⟨lw_p62, List.forall_mem_cons.mpr ⟨lw_p63, fun _ h => absurd h List.not_mem_nil⟩⟩⟩⟩⟩⟩⟩⟩⟩⟩⟩⟩⟩⟩⟩⟩
theorem lw_p64 : lw_okq (⟨"OtherSideModel", "isBody", "(I)Z"⟩, 58) := ⟨⟨by decide +kernel, by decide +kernel⟩, List.mem_of_getElem? (i := 788) (by decide +kernel), List.mem_of_getElem? (i := 1279) (by decide +kernel), List.mem_of_getElem? (i := 1280) (by decide +kernel)⟩
theorem lw_p65 : lw_okq (⟨"OtherSideModel", "showing", "(II)I"⟩, 58) := ⟨⟨by decide +kernel, by decide +kernel⟩, List.mem_of_getElem? (i := 788) (by decide +kernel), List.mem_of_getElem? (i := 1283) (by decide +kernel), List.mem_of_getElem? (i := 1284) (by decide +kernel)⟩
theorem lw_p66 : lw_okq (⟨"OtherSideModel", "ran", "(I)V"⟩, 58) := ⟨⟨by decide +kernel, by decide +kernel⟩, List.mem_of_getElem? (i := 788) (by decide +kernel), List.mem_of_getElem? (i := 1290) (by decide +kernel), List.mem_of_getElem? (i := 1291) (by decide +kernel)⟩
theorem lw_p67 : lw_okq (⟨"OtherSideModel", "plainShows", "(II)I"⟩, 58) := ⟨⟨by decide +kernel, by decide +kernel⟩, List.mem_of_getElem? (i := 788) (by decide +kernel), List.mem_of_getElem? (i := 1294) (by decide +kernel), List.mem_of_getElem? (i := 1295) (by decide +kernel)⟩
theorem lw_p68 : lw_okq (⟨"OtherSideModel", "toldShows", "(II)I"⟩, 58) := ⟨⟨by decide +kernel, by decide +kernel⟩, List.mem_of_getElem? (i := 788) (by decide +kernel), List.mem_of_getElem? (i := 1298) (by decide +kernel), List.mem_of_getElem? (i := 1299) (by decide +kernel)⟩
theorem lw_p69 : lw_okq (⟨"OtherSideModel", "drawing", "(II)I"⟩, 58) := ⟨⟨by decide +kernel, by decide +kernel⟩, List.mem_of_getElem? (i := 788) (by decide +kernel), List.mem_of_getElem? (i := 1302) (by decide +kernel), List.mem_of_getElem? (i := 1303) (by decide +kernel)⟩
theorem lw_p70 : lw_okq (⟨"OtherSideModel", "urnDraws", "(II)I"⟩, 58) := ⟨⟨by decide +kernel, by decide +kernel⟩, List.mem_of_getElem? (i := 788) (by decide +kernel), List.mem_of_getElem? (i := 1306) (by decide +kernel), List.mem_of_getElem? (i := 1307) (by decide +kernel)⟩
theorem lw_p71 : lw_okq (⟨"OtherSideModel", "plainDraws", "(II)I"⟩, 58) := ⟨⟨by decide +kernel, by decide +kernel⟩, List.mem_of_getElem? (i := 788) (by decide +kernel), List.mem_of_getElem? (i := 1310) (by decide +kernel), List.mem_of_getElem? (i := 1311) (by decide +kernel)⟩
theorem lw_p72 : lw_okq (⟨"OtherSideModel", "leaving", "(II)I"⟩, 58) := ⟨⟨by decide +kernel, by decide +kernel⟩, List.mem_of_getElem? (i := 788) (by decide +kernel), List.mem_of_getElem? (i := 1314) (by decide +kernel), List.mem_of_getElem? (i := 1315) (by decide +kernel)⟩
theorem lw_p73 : lw_okq (⟨"OtherSideModel", "testLeaves", "(II)I"⟩, 58) := ⟨⟨by decide +kernel, by decide +kernel⟩, List.mem_of_getElem? (i := 788) (by decide +kernel), List.mem_of_getElem? (i := 1318) (by decide +kernel), List.mem_of_getElem? (i := 1319) (by decide +kernel)⟩
theorem lw_p74 : lw_okq (⟨"OtherSideModel", "plainLeaves", "(II)I"⟩, 58) := ⟨⟨by decide +kernel, by decide +kernel⟩, List.mem_of_getElem? (i := 788) (by decide +kernel), List.mem_of_getElem? (i := 1322) (by decide +kernel), List.mem_of_getElem? (i := 1323) (by decide +kernel)⟩
theorem lw_p75 : lw_okq (⟨"OtherSideModel", "telling", "(II)I"⟩, 58) := ⟨⟨by decide +kernel, by decide +kernel⟩, List.mem_of_getElem? (i := 788) (by decide +kernel), List.mem_of_getElem? (i := 1326) (by decide +kernel), List.mem_of_getElem? (i := 1327) (by decide +kernel)⟩
theorem lw_p76 : lw_okq (⟨"OtherSideModel", "plainTells", "(II)I"⟩, 58) := ⟨⟨by decide +kernel, by decide +kernel⟩, List.mem_of_getElem? (i := 788) (by decide +kernel), List.mem_of_getElem? (i := 1330) (by decide +kernel), List.mem_of_getElem? (i := 1331) (by decide +kernel)⟩
theorem lw_p77 : lw_okq (⟨"OtherSideModel", "whyNoPlace", "(II)I"⟩, 58) := ⟨⟨by decide +kernel, by decide +kernel⟩, List.mem_of_getElem? (i := 788) (by decide +kernel), List.mem_of_getElem? (i := 1350) (by decide +kernel), List.mem_of_getElem? (i := 1351) (by decide +kernel)⟩
def lw_privs_5 : List (MethodName × Nat) := [(⟨"OtherSideModel", "isBody", "(I)Z"⟩, 58), (⟨"OtherSideModel", "showing", "(II)I"⟩, 58), (⟨"OtherSideModel", "ran", "(I)V"⟩, 58), (⟨"OtherSideModel", "plainShows", "(II)I"⟩, 58), (⟨"OtherSideModel", "toldShows", "(II)I"⟩, 58), (⟨"OtherSideModel", "drawing", "(II)I"⟩, 58), (⟨"OtherSideModel", "urnDraws", "(II)I"⟩, 58), (⟨"OtherSideModel", "plainDraws", "(II)I"⟩, 58), (⟨"OtherSideModel", "leaving", "(II)I"⟩, 58), (⟨"OtherSideModel", "testLeaves", "(II)I"⟩, 58), (⟨"OtherSideModel", "plainLeaves", "(II)I"⟩, 58), (⟨"OtherSideModel", "telling", "(II)I"⟩, 58), (⟨"OtherSideModel", "plainTells", "(II)I"⟩, 58), (⟨"OtherSideModel", "whyNoPlace", "(II)I"⟩, 58)]
theorem lw_r5 : ∀ q ∈ lw_privs_5, lw_okq q := List.forall_mem_cons.mpr ⟨lw_p64, List.forall_mem_cons.mpr ⟨lw_p65, List.forall_mem_cons.mpr ⟨lw_p66, List.forall_mem_cons.mpr ⟨lw_p67, List.forall_mem_cons.mpr ⟨lw_p68, List.forall_mem_cons.mpr ⟨lw_p69, List.forall_mem_cons.mpr ⟨lw_p70, List.forall_mem_cons.mpr ⟨lw_p71, List.forall_mem_cons.mpr ⟨lw_p72, List.forall_mem_cons.mpr ⟨lw_p73, List.forall_mem_cons.mpr ⟨lw_p74, List.forall_mem_cons.mpr ⟨lw_p75, List.forall_mem_cons.mpr ⟨lw_p76, List.forall_mem_cons.mpr ⟨lw_p77, fun _ h => absurd h List.not_mem_nil⟩⟩⟩⟩⟩⟩⟩⟩⟩⟩⟩⟩⟩⟩
def lw_privs : List (MethodName × Nat) := lw_privs_1 ++ (lw_privs_2 ++ (lw_privs_3 ++ (lw_privs_4 ++ (lw_privs_5))))
def lw_tbl : List Cond := k2_sels lw_privs ++ tables_1
theorem lw_privs_ok : ∀ q ∈ lw_privs, lw_okq q := by
  show ∀ q ∈ lw_privs_1 ++ (lw_privs_2 ++ (lw_privs_3 ++ (lw_privs_4 ++ (lw_privs_5)))), lw_okq q
  exact List.forall_mem_append.mpr ⟨lw_r1, List.forall_mem_append.mpr ⟨lw_r2, List.forall_mem_append.mpr ⟨lw_r3, List.forall_mem_append.mpr ⟨lw_r4, lw_r5⟩⟩⟩⟩
end
section
/-! ===== BEGIN words of one list among another's, by their places ===== -/
theorem goodIn_r {big : List Cond} (ws : List Cond) (ps : List Nat) (hp : ws = ps.filterMap (fun i => big[i]?)) (h : ws.all goodWord = true) : GoodIn big ws := by
  intro w hw
  have h1 := List.all_eq_true.mp h w hw
  rw [hp] at hw
  obtain ⟨i, -, hi⟩ := List.mem_filterMap.mp hw
  have hm : w ∈ big := by first | exact List.mem_of_getElem? hi | exact List.getElem?_mem hi
  exact ⟨hm, good_of_word h1⟩
theorem goodIn_app {big a b : List Cond} (ha : GoodIn big a) (hb : GoodIn big b) : GoodIn big (a ++ b) := fun w h => (List.mem_append.mp h).elim (ha w) (hb w)
theorem goodIn_ca {big a b : List Cond} {c : Cond} (ha : GoodIn big (c :: a)) (hb : GoodIn big b) : GoodIn big (c :: (a ++ b)) := fun w h => (List.mem_cons.mp h).elim (fun e => ha w (List.mem_cons.mpr (Or.inl e))) (fun h => (List.mem_append.mp h).elim (fun h => ha w (List.mem_cons.mpr (Or.inr h))) (hb w))
theorem goodIn_sub {big ws : List Cond} (hm : ∀ w ∈ ws, w ∈ big) (h : ws.all goodWord = true) : GoodIn big ws := fun w hw => ⟨hm w hw, good_of_word (List.all_eq_true.mp h w hw)⟩
/-! ===== END ===== -/


def RX0 : String := "OtherSide$Acts"
def TX0 : u_T := fun k => match k with
  | 0 => ("OtherSide$Acts", "kinds", "[I", true)
  | 1 => ("OtherSide$Acts", "bodies", "I", false)
  | 2 => ("OtherSide$Acts", "trace", "[I", true)
  | 3 => ("OtherSide$Acts", "ran", "I", false)
  | 4 => ("OtherSide$Acts", "kind", "I", false)
  | _ => ("OtherSide$Acts", "number", "I", false)
def tyX0 : Nat → FieldType := fun k => match k with
  | 0 => .array .int
  | 1 => .int
  | 2 => .array .int
  | 3 => .int
  | 4 => .int
  | _ => .int
theorem nmX0 : ∀ a, a < 6 → ∀ b, b < 6 → a ≠ b → (TX0 a).2.1 ≠ (TX0 b).2.1 := by decide +kernel
theorem tyX0_ok : ∀ k, k < 6 → parseFieldDescriptor (TX0 k).2.2.1 = some (tyX0 k) := by decide +kernel
abbrev cX0_init : ByteArray := prog_2_method_1_code
def yX0_init : MethodName := ⟨RX0, "<init>", "()V"⟩
abbrev cX0_addBody : ByteArray := prog_2_method_2_code
def yX0_addBody : MethodName := ⟨RX0, "addBody", "(I)I"⟩
abbrev cX0_isUnder : ByteArray := prog_2_method_3_code
def yX0_isUnder : MethodName := ⟨RX0, "isUnder", "(II)Z"⟩
abbrev cX0_perform : ByteArray := prog_2_method_4_code
def yX0_perform : MethodName := ⟨RX0, "perform", "(III)I"⟩
abbrev cX0_run : ByteArray := prog_2_method_5_code
def yX0_run : MethodName := ⟨RX0, "run", "(IIII)I"⟩
abbrev cX0_own : ByteArray := prog_2_method_6_code
def yX0_own : MethodName := ⟨RX0, "own", "(III)I"⟩
abbrev cX0_above : ByteArray := prog_2_method_7_code
def yX0_above : MethodName := ⟨RX0, "above", "(IIII)I"⟩
abbrev cX0_owner : ByteArray := prog_2_method_8_code
def yX0_owner : MethodName := ⟨RX0, "owner", "(II)I"⟩
abbrev cX0_note : ByteArray := prog_2_method_9_code
def yX0_note : MethodName := ⟨RX0, "note", "(I)V"⟩
def RX1 : String := "OtherSide$Drawings"
def TX1 : u_T := fun k => match k with
  | 0 => ("OtherSide$Drawings", "seed", "I", false)
  | 1 => ("OtherSide$Drawings", "aside", "[I", true)
  | 2 => ("OtherSide$Drawings", "led", "[I", true)
  | 3 => ("OtherSide$Drawings", "latest", "I", false)
  | 4 => ("OtherSide$Drawings", "imageMany", "[I", true)
  | 5 => ("OtherSide$Drawings", "imageAside", "[I", true)
  | 6 => ("OtherSide$Drawings", "imageLed", "[I", true)
  | 7 => ("OtherSide$Drawings", "imageLatest", "I", false)
  | _ => ("OtherSide$Drawings", "imageCards", "I", false)
def tyX1 : Nat → FieldType := fun k => match k with
  | 0 => .int
  | 1 => .array .int
  | 2 => .array .int
  | 3 => .int
  | 4 => .array .int
  | 5 => .array .int
  | 6 => .array .int
  | 7 => .int
  | _ => .int
theorem nmX1 : ∀ a, a < 9 → ∀ b, b < 9 → a ≠ b → (TX1 a).2.1 ≠ (TX1 b).2.1 := by decide +kernel
theorem tyX1_ok : ∀ k, k < 9 → parseFieldDescriptor (TX1 k).2.2.1 = some (tyX1 k) := by decide +kernel
abbrev cX1_init : ByteArray := prog_3_method_1_code
def yX1_init : MethodName := ⟨RX1, "<init>", "()V"⟩
abbrev cX1_lot : ByteArray := prog_3_method_2_code
def yX1_lot : MethodName := ⟨RX1, "lot", "(I)I"⟩
abbrev cX1_pickCard : ByteArray := prog_3_method_3_code
def yX1_pickCard : MethodName := ⟨RX1, "pickCard", "(LOtherSide$Things;)I"⟩
abbrev cX1_pickSide : ByteArray := prog_3_method_4_code
def yX1_pickSide : MethodName := ⟨RX1, "pickSide", "([I)I"⟩
abbrev cX1_layAside : ByteArray := prog_3_method_5_code
def yX1_layAside : MethodName := ⟨RX1, "layAside", "(LOtherSide$Things;II)V"⟩
abbrev cX1_layAllBack : ByteArray := prog_3_method_6_code
def yX1_layAllBack : MethodName := ⟨RX1, "layAllBack", "(LOtherSide$Things;)I"⟩
abbrev cX1_allAside : ByteArray := prog_3_method_7_code
def yX1_allAside : MethodName := ⟨RX1, "allAside", "()I"⟩
abbrev cX1_hasImage : ByteArray := prog_3_method_8_code
def yX1_hasImage : MethodName := ⟨RX1, "hasImage", "()Z"⟩
abbrev cX1_keepImage : ByteArray := prog_3_method_9_code
def yX1_keepImage : MethodName := ⟨RX1, "keepImage", "(LOtherSide$Things;)V"⟩
abbrev cX1_takeImage : ByteArray := prog_3_method_10_code
def yX1_takeImage : MethodName := ⟨RX1, "takeImage", "(LOtherSide$Things;)V"⟩
def RX2 : String := "OtherSide$Law"
def TX2 : u_T := fun k => match k with
  | 0 => ("OtherSide$Law", "code", "[I", false)
  | 1 => ("OtherSide$Law", "size", "I", false)
  | 2 => ("OtherSide$Law", "nextCode", "[I", false)
  | 3 => ("OtherSide$Law", "nextSize", "I", false)
  | 4 => ("OtherSide$Law", "text", "[I", true)
  | 5 => ("OtherSide$Law", "length", "I", false)
  | 6 => ("OtherSide$Law", "place", "I", false)
  | 7 => ("OtherSide$Law", "fault", "I", false)
  | 8 => ("OtherSide$Law", "stack", "[I", true)
  | 9 => ("OtherSide$Law", "top", "I", false)
  | 10 => ("OtherSide$Law", "a", "I", false)
  | 11 => ("OtherSide$Law", "b", "I", false)
  | 12 => ("OtherSide$Law", "n", "I", false)
  | 13 => ("OtherSide$Law", "m", "I", false)
  | _ => ("OtherSide$Law", "s", "I", false)
def tyX2 : Nat → FieldType := fun k => match k with
  | 0 => .array .int
  | 1 => .int
  | 2 => .array .int
  | 3 => .int
  | 4 => .array .int
  | 5 => .int
  | 6 => .int
  | 7 => .int
  | 8 => .array .int
  | 9 => .int
  | 10 => .int
  | 11 => .int
  | 12 => .int
  | 13 => .int
  | _ => .int
theorem nmX2 : ∀ a, a < 15 → ∀ b, b < 15 → a ≠ b → (TX2 a).2.1 ≠ (TX2 b).2.1 := by decide +kernel
theorem tyX2_ok : ∀ k, k < 15 → parseFieldDescriptor (TX2 k).2.2.1 = some (tyX2 k) := by decide +kernel
abbrev cX2_init : ByteArray := prog_4_method_1_code
def yX2_init : MethodName := ⟨RX2, "<init>", "()V"⟩
abbrev cX2_stands : ByteArray := prog_4_method_2_code
def yX2_stands : MethodName := ⟨RX2, "stands", "()Z"⟩
abbrev cX2_read : ByteArray := prog_4_method_3_code
def yX2_read : MethodName := ⟨RX2, "read", "([II)I"⟩
abbrev cX2_readLine : ByteArray := prog_4_method_4_code
def yX2_readLine : MethodName := ⟨RX2, "readLine", "()V"⟩
abbrev cX2_readJoined : ByteArray := prog_4_method_5_code
def yX2_readJoined : MethodName := ⟨RX2, "readJoined", "(II)V"⟩
abbrev cX2_readTighter : ByteArray := prog_4_method_6_code
def yX2_readTighter : MethodName := ⟨RX2, "readTighter", "(II)V"⟩
abbrev cX2_joins : ByteArray := prog_4_method_7_code
def yX2_joins : MethodName := ⟨RX2, "joins", "(II)Z"⟩
abbrev cX2_readOperand : ByteArray := prog_4_method_8_code
def yX2_readOperand : MethodName := ⟨RX2, "readOperand", "(I)V"⟩
abbrev cX2_readBehind : ByteArray := prog_4_method_9_code
def yX2_readBehind : MethodName := ⟨RX2, "readBehind", "(II)V"⟩
abbrev cX2_readNumber : ByteArray := prog_4_method_10_code
def yX2_readNumber : MethodName := ⟨RX2, "readNumber", "()V"⟩
abbrev cX2_isDigit : ByteArray := prog_4_method_11_code
def yX2_isDigit : MethodName := ⟨RX2, "isDigit", "(I)Z"⟩
abbrev cX2_sign : ByteArray := prog_4_method_12_code
def yX2_sign : MethodName := ⟨RX2, "sign", "()I"⟩
abbrev cX2_takes : ByteArray := prog_4_method_13_code
def yX2_takes : MethodName := ⟨RX2, "takes", "(I)Z"⟩
abbrev cX2_fail : ByteArray := prog_4_method_14_code
def yX2_fail : MethodName := ⟨RX2, "fail", "()V"⟩
abbrev cX2_emit : ByteArray := prog_4_method_15_code
def yX2_emit : MethodName := ⟨RX2, "emit", "(I)V"⟩
abbrev cX2_valueFor : ByteArray := prog_4_method_16_code
def yX2_valueFor : MethodName := ⟨RX2, "valueFor", "(LOtherSide$Things;III)I"⟩
abbrev cX2_workOut : ByteArray := prog_4_method_17_code
def yX2_workOut : MethodName := ⟨RX2, "workOut", "(I)V"⟩
abbrev cX2_joined : ByteArray := prog_4_method_18_code
def yX2_joined : MethodName := ⟨RX2, "joined", "(III)I"⟩
abbrev cX2_push : ByteArray := prog_4_method_19_code
def yX2_push : MethodName := ⟨RX2, "push", "(I)V"⟩
abbrev cX2_pop : ByteArray := prog_4_method_20_code
def yX2_pop : MethodName := ⟨RX2, "pop", "()I"⟩
def RX3 : String := "OtherSide$Odds"
def TX3 : u_T := fun k => match k with
  | 0 => ("OtherSide$Odds", "order", "[I", true)
  | 1 => ("OtherSide$Odds", "tried", "[I", true)
  | _ => ("OtherSide$Odds", "stakes", "[I", true)
def tyX3 : Nat → FieldType := fun k => match k with
  | 0 => .array .int
  | 1 => .array .int
  | _ => .array .int
theorem nmX3 : ∀ a, a < 3 → ∀ b, b < 3 → a ≠ b → (TX3 a).2.1 ≠ (TX3 b).2.1 := by decide +kernel
theorem tyX3_ok : ∀ k, k < 3 → parseFieldDescriptor (TX3 k).2.2.1 = some (tyX3 k) := by decide +kernel
abbrev cX3_init : ByteArray := prog_5_method_1_code
def yX3_init : MethodName := ⟨RX3, "<init>", "()V"⟩
abbrev cX3_redLast : ByteArray := prog_5_method_2_code
def yX3_redLast : MethodName := ⟨RX3, "redLast", "(LOtherSide$Things;III)J"⟩
abbrev cX3_waysToLast : ByteArray := prog_5_method_3_code
def yX3_waysToLast : MethodName := ⟨RX3, "waysToLast", "(LOtherSide$Things;I)J"⟩
abbrev cX3_waysIll : ByteArray := prog_5_method_4_code
def yX3_waysIll : MethodName := ⟨RX3, "waysIll", "(LOtherSide$Things;II)J"⟩
abbrev cX3_waysWell : ByteArray := prog_5_method_5_code
def yX3_waysWell : MethodName := ⟨RX3, "waysWell", "(LOtherSide$Things;II)J"⟩
abbrev cX3_waysRight : ByteArray := prog_5_method_6_code
def yX3_waysRight : MethodName := ⟨RX3, "waysRight", "([III)J"⟩
abbrev cX3_findOrder : ByteArray := prog_5_method_7_code
def yX3_findOrder : MethodName := ⟨RX3, "findOrder", "(LOtherSide$Things;)V"⟩
abbrev cX3_isOrder : ByteArray := prog_5_method_8_code
def yX3_isOrder : MethodName := ⟨RX3, "isOrder", "(I)Z"⟩
abbrev cX3_meanPrice : ByteArray := prog_5_method_9_code
def yX3_meanPrice : MethodName := ⟨RX3, "meanPrice", "(LOtherSide$Things;[I)J"⟩
abbrev cX3_waysTheySay : ByteArray := prog_5_method_10_code
def yX3_waysTheySay : MethodName := ⟨RX3, "waysTheySay", "(LOtherSide$Things;II)J"⟩
abbrev cX3_allWays : ByteArray := prog_5_method_11_code
def yX3_allWays : MethodName := ⟨RX3, "allWays", "(I)J"⟩
abbrev cX3_findStakes : ByteArray := prog_5_method_12_code
def yX3_findStakes : MethodName := ⟨RX3, "findStakes", "(LOtherSide$Things;)I"⟩
abbrev cX3_leastLoss : ByteArray := prog_5_method_13_code
def yX3_leastLoss : MethodName := ⟨RX3, "leastLoss", "([IIII)I"⟩
def RX4 : String := "OtherSide$Shelf"
def TX4 : u_T := fun k => match k with
  | 0 => ("OtherSide$Shelf", "holds", "I", false)
  | 1 => ("OtherSide$Shelf", "body", "I", false)
  | 2 => ("OtherSide$Shelf", "sort", "I", false)
  | 3 => ("OtherSide$Shelf", "length", "I", false)
  | _ => ("OtherSide$Shelf", "elements", "[J", true)
def tyX4 : Nat → FieldType := fun k => match k with
  | 0 => .int
  | 1 => .int
  | 2 => .int
  | 3 => .int
  | _ => .array .long
theorem nmX4 : ∀ a, a < 5 → ∀ b, b < 5 → a ≠ b → (TX4 a).2.1 ≠ (TX4 b).2.1 := by decide +kernel
theorem tyX4_ok : ∀ k, k < 5 → parseFieldDescriptor (TX4 k).2.2.1 = some (tyX4 k) := by decide +kernel
abbrev cX4_init : ByteArray := prog_6_method_1_code
def yX4_init : MethodName := ⟨RX4, "<init>", "()V"⟩
abbrev cX4_isRowOf : ByteArray := prog_6_method_2_code
def yX4_isRowOf : MethodName := ⟨RX4, "isRowOf", "(I)Z"⟩
abbrev cX4_becomeRow : ByteArray := prog_6_method_3_code
def yX4_becomeRow : MethodName := ⟨RX4, "becomeRow", "(II)V"⟩
abbrev cX4_spans : ByteArray := prog_6_method_4_code
def yX4_spans : MethodName := ⟨RX4, "spans", "(II)Z"⟩
abbrev cX4_kept : ByteArray := prog_6_method_5_code
def yX4_kept : MethodName := ⟨RX4, "kept", "(IJ)J"⟩
def RX5 : String := "OtherSide$Showings"
def TX5 : u_T := fun k => match k with
  | _ => ("OtherSide$Showings", "weights", "[[I", true)
def tyX5 : Nat → FieldType := fun k => match k with
  | _ => .array (.array .int)
theorem nmX5 : ∀ a, a < 1 → ∀ b, b < 1 → a ≠ b → (TX5 a).2.1 ≠ (TX5 b).2.1 := by decide +kernel
theorem tyX5_ok : ∀ k, k < 1 → parseFieldDescriptor (TX5 k).2.2.1 = some (tyX5 k) := by decide +kernel
abbrev cX5_init : ByteArray := prog_7_method_1_code
def yX5_init : MethodName := ⟨RX5, "<init>", "()V"⟩
abbrev cX5_weighAll : ByteArray := prog_7_method_2_code
def yX5_weighAll : MethodName := ⟨RX5, "weighAll", "(LOtherSide$Things;LOtherSide$Law;)V"⟩
abbrev cX5_weigh : ByteArray := prog_7_method_3_code
def yX5_weigh : MethodName := ⟨RX5, "weigh", "(LOtherSide$Things;LOtherSide$Law;I)V"⟩
abbrev cX5_weighAmong : ByteArray := prog_7_method_4_code
def yX5_weighAmong : MethodName := ⟨RX5, "weighAmong", "(LOtherSide$Things;LOtherSide$Law;II)V"⟩
abbrev cX5_held : ByteArray := prog_7_method_5_code
def yX5_held : MethodName := ⟨RX5, "held", "(I)I"⟩
abbrev cX5_ofSide : ByteArray := prog_7_method_6_code
def yX5_ofSide : MethodName := ⟨RX5, "ofSide", "(II)I"⟩
abbrev cX5_ofColour : ByteArray := prog_7_method_7_code
def yX5_ofColour : MethodName := ⟨RX5, "ofColour", "(LOtherSide$Things;II)I"⟩
abbrev cX5_likelyOf : ByteArray := prog_7_method_8_code
def yX5_likelyOf : MethodName := ⟨RX5, "likelyOf", "(LOtherSide$Things;III)J"⟩
abbrev cX5_likely : ByteArray := prog_7_method_9_code
def yX5_likely : MethodName := ⟨RX5, "likely", "(LOtherSide$Things;II)J"⟩
abbrev cX5_likelyBoth : ByteArray := prog_7_method_10_code
def yX5_likelyBoth : MethodName := ⟨RX5, "likelyBoth", "(LOtherSide$Things;II)J"⟩
abbrev cX5_mostLikelyMore : ByteArray := prog_7_method_11_code
def yX5_mostLikelyMore : MethodName := ⟨RX5, "mostLikelyMore", "(LOtherSide$Things;LOtherSide$Law;LOtherSide$Shelf;)I"⟩
abbrev cX5_waysWith : ByteArray := prog_7_method_12_code
def yX5_waysWith : MethodName := ⟨RX5, "waysWith", "(LOtherSide$Things;ILOtherSide$Shelf;)J"⟩
abbrev cX5_allWaysOf : ByteArray := prog_7_method_13_code
def yX5_allWaysOf : MethodName := ⟨RX5, "allWaysOf", "(ILOtherSide$Shelf;)J"⟩
abbrev cX5_isMore : ByteArray := prog_7_method_14_code
def yX5_isMore : MethodName := ⟨RX5, "isMore", "(JJJJ)Z"⟩
def RX6 : String := "OtherSide$Things"
def TX6 : u_T := fun k => match k with
  | 0 => ("OtherSide$Things", "values", "[[I", true)
  | 1 => ("OtherSide$Things", "cards", "I", false)
  | 2 => ("OtherSide$Things", "number", "[I", true)
  | 3 => ("OtherSide$Things", "what", "[I", true)
  | 4 => ("OtherSide$Things", "was", "[I", true)
  | 5 => ("OtherSide$Things", "became", "[I", true)
  | 6 => ("OtherSide$Things", "oldest", "I", false)
  | 7 => ("OtherSide$Things", "done", "I", false)
  | _ => ("OtherSide$Things", "undone", "I", false)
def tyX6 : Nat → FieldType := fun k => match k with
  | 0 => .array (.array .int)
  | 1 => .int
  | 2 => .array .int
  | 3 => .array .int
  | 4 => .array .int
  | 5 => .array .int
  | 6 => .int
  | 7 => .int
  | _ => .int
theorem nmX6 : ∀ a, a < 9 → ∀ b, b < 9 → a ≠ b → (TX6 a).2.1 ≠ (TX6 b).2.1 := by decide +kernel
theorem tyX6_ok : ∀ k, k < 9 → parseFieldDescriptor (TX6 k).2.2.1 = some (tyX6 k) := by decide +kernel
abbrev cX6_init : ByteArray := prog_8_method_1_code
def yX6_init : MethodName := ⟨RX6, "<init>", "()V"⟩
abbrev cX6_mayBeCard : ByteArray := prog_8_method_2_code
def yX6_mayBeCard : MethodName := ⟨RX6, "mayBeCard", "(III)Z"⟩
abbrev cX6_addCard : ByteArray := prog_8_method_3_code
def yX6_addCard : MethodName := ⟨RX6, "addCard", "(III)I"⟩
abbrev cX6_known : ByteArray := prog_8_method_4_code
def yX6_known : MethodName := ⟨RX6, "known", "(II)Z"⟩
abbrev cX6_colour : ByteArray := prog_8_method_5_code
def yX6_colour : MethodName := ⟨RX6, "colour", "(II)I"⟩
abbrev cX6_inHat : ByteArray := prog_8_method_6_code
def yX6_inHat : MethodName := ⟨RX6, "inHat", "()I"⟩
abbrev cX6_putInHat : ByteArray := prog_8_method_7_code
def yX6_putInHat : MethodName := ⟨RX6, "putInHat", "(II)V"⟩
abbrev cX6_change : ByteArray := prog_8_method_8_code
def yX6_change : MethodName := ⟨RX6, "change", "(III)I"⟩
abbrev cX6_keepChange : ByteArray := prog_8_method_9_code
def yX6_keepChange : MethodName := ⟨RX6, "keepChange", "(IIII)V"⟩
abbrev cX6_takeChangeBack : ByteArray := prog_8_method_10_code
def yX6_takeChangeBack : MethodName := ⟨RX6, "takeChangeBack", "()Z"⟩
abbrev cX6_doChangeAgain : ByteArray := prog_8_method_11_code
def yX6_doChangeAgain : MethodName := ⟨RX6, "doChangeAgain", "()Z"⟩
def RX7 : String := "OtherSide"
def TX7 : u_T := fun k => match k with
  | 0 => ("OtherSide", "things", "LOtherSide$Things;", true)
  | 1 => ("OtherSide", "law", "LOtherSide$Law;", true)
  | 2 => ("OtherSide", "showings", "LOtherSide$Showings;", true)
  | 3 => ("OtherSide", "odds", "LOtherSide$Odds;", true)
  | 4 => ("OtherSide", "drawings", "LOtherSide$Drawings;", true)
  | 5 => ("OtherSide", "acts", "LOtherSide$Acts;", true)
  | 6 => ("OtherSide", "shelves", "[LOtherSide$Shelf;", true)
  | 7 => ("OtherSide", "tape", "[I", true)
  | _ => ("OtherSide", "taped", "I", false)
def tyX7 : Nat → FieldType := fun k => match k with
  | 0 => .object "OtherSide$Things"
  | 1 => .object "OtherSide$Law"
  | 2 => .object "OtherSide$Showings"
  | 3 => .object "OtherSide$Odds"
  | 4 => .object "OtherSide$Drawings"
  | 5 => .object "OtherSide$Acts"
  | 6 => .array (.object "OtherSide$Shelf")
  | 7 => .array .int
  | _ => .int
theorem nmX7 : ∀ a, a < 9 → ∀ b, b < 9 → a ≠ b → (TX7 a).2.1 ≠ (TX7 b).2.1 := by decide +kernel
theorem tyX7_ok : ∀ k, k < 9 → parseFieldDescriptor (TX7 k).2.2.1 = some (tyX7 k) := by decide +kernel
abbrev cX7_init : ByteArray := prog_1_method_1_code
def yX7_init : MethodName := ⟨RX7, "<init>", "()V"⟩
abbrev cX7_card : ByteArray := prog_1_method_2_code
def yX7_card : MethodName := ⟨RX7, "card", "(I)I"⟩
abbrev cX7_cards : ByteArray := prog_1_method_3_code
def yX7_cards : MethodName := ⟨RX7, "cards", "(III)I"⟩
abbrev cX7_cardsFrom : ByteArray := prog_1_method_4_code
def yX7_cardsFrom : MethodName := ⟨RX7, "cardsFrom", "(LOtherSide$Shelf;II)I"⟩
abbrev cX7_mend : ByteArray := prog_1_method_5_code
def yX7_mend : MethodName := ⟨RX7, "mend", "(III)I"⟩
abbrev cX7_of : ByteArray := prog_1_method_6_code
def yX7_of : MethodName := ⟨RX7, "of", "(II)I"⟩
abbrev cX7_feed : ByteArray := prog_1_method_7_code
def yX7_feed : MethodName := ⟨RX7, "feed", "(I)I"⟩
abbrev cX7_law : ByteArray := prog_1_method_8_code
def yX7_law : MethodName := ⟨RX7, "law", "()I"⟩
abbrev cX7_weight : ByteArray := prog_1_method_9_code
def yX7_weight : MethodName := ⟨RX7, "weight", "(II)I"⟩
abbrev cX7_shown : ByteArray := prog_1_method_10_code
def yX7_shown : MethodName := ⟨RX7, "shown", "(II)J"⟩
abbrev cX7_other : ByteArray := prog_1_method_11_code
def yX7_other : MethodName := ⟨RX7, "other", "(II)J"⟩
abbrev cX7_which : ByteArray := prog_1_method_12_code
def yX7_which : MethodName := ⟨RX7, "which", "(III)J"⟩
abbrev cX7_again : ByteArray := prog_1_method_13_code
def yX7_again : MethodName := ⟨RX7, "again", "(II)J"⟩
abbrev cX7_mayBeTimes : ByteArray := prog_1_method_14_code
def yX7_mayBeTimes : MethodName := ⟨RX7, "mayBeTimes", "(I)Z"⟩
abbrev cX7_cheated : ByteArray := prog_1_method_15_code
def yX7_cheated : MethodName := ⟨RX7, "cheated", "(I)I"⟩
abbrev cX7_judge : ByteArray := prog_1_method_16_code
def yX7_judge : MethodName := ⟨RX7, "judge", "(I)I"⟩
abbrev cX7_refusedBytes : ByteArray := prog_1_method_17_code
def yX7_refusedBytes : MethodName := ⟨RX7, "refusedBytes", "(I)I"⟩
abbrev cX7_handed : ByteArray := prog_1_method_18_code
def yX7_handed : MethodName := ⟨RX7, "handed", "(III)J"⟩
abbrev cX7_ill : ByteArray := prog_1_method_19_code
def yX7_ill : MethodName := ⟨RX7, "ill", "(II)J"⟩
abbrev cX7_order : ByteArray := prog_1_method_20_code
def yX7_order : MethodName := ⟨RX7, "order", "(II)J"⟩
abbrev cX7_isSo : ByteArray := prog_1_method_21_code
def yX7_isSo : MethodName := ⟨RX7, "isSo", "(II)J"⟩
abbrev cX7_mayBeTold : ByteArray := prog_1_method_22_code
def yX7_mayBeTold : MethodName := ⟨RX7, "mayBeTold", "(II)Z"⟩
abbrev cX7_tooMany : ByteArray := prog_1_method_23_code
def yX7_tooMany : MethodName := ⟨RX7, "tooMany", "(II)J"⟩
abbrev cX7_next : ByteArray := prog_1_method_24_code
def yX7_next : MethodName := ⟨RX7, "next", "(II)J"⟩
abbrev cX7_sure : ByteArray := prog_1_method_25_code
def yX7_sure : MethodName := ⟨RX7, "sure", "(I)I"⟩
abbrev cX7_drawn : ByteArray := prog_1_method_26_code
def yX7_drawn : MethodName := ⟨RX7, "drawn", "(III)I"⟩
abbrev cX7_draw : ByteArray := prog_1_method_27_code
def yX7_draw : MethodName := ⟨RX7, "draw", "(I)I"⟩
abbrev cX7_putBack : ByteArray := prog_1_method_28_code
def yX7_putBack : MethodName := ⟨RX7, "putBack", "()I"⟩
abbrev cX7_image : ByteArray := prog_1_method_29_code
def yX7_image : MethodName := ⟨RX7, "image", "()I"⟩
abbrev cX7_back : ByteArray := prog_1_method_30_code
def yX7_back : MethodName := ⟨RX7, "back", "()I"⟩
abbrev cX7_undo : ByteArray := prog_1_method_31_code
def yX7_undo : MethodName := ⟨RX7, "undo", "()I"⟩
abbrev cX7_redo : ByteArray := prog_1_method_32_code
def yX7_redo : MethodName := ⟨RX7, "redo", "()I"⟩
abbrev cX7_body : ByteArray := prog_1_method_33_code
def yX7_body : MethodName := ⟨RX7, "body", "(I)I"⟩
abbrev cX7_act : ByteArray := prog_1_method_34_code
def yX7_act : MethodName := ⟨RX7, "act", "(III)I"⟩
abbrev cX7_trace : ByteArray := prog_1_method_35_code
def yX7_trace : MethodName := ⟨RX7, "trace", "(I)I"⟩
abbrev cX7_keep : ByteArray := prog_1_method_36_code
def yX7_keep : MethodName := ⟨RX7, "keep", "(II)I"⟩
abbrev cX7_row : ByteArray := prog_1_method_37_code
def yX7_row : MethodName := ⟨RX7, "row", "(III)I"⟩
abbrev cX7_put : ByteArray := prog_1_method_38_code
def yX7_put : MethodName := ⟨RX7, "put", "(IIJ)I"⟩
abbrev cX7_element : ByteArray := prog_1_method_39_code
def yX7_element : MethodName := ⟨RX7, "element", "(II)J"⟩
abbrev cX7_refusedElement : ByteArray := prog_1_method_40_code
def yX7_refusedElement : MethodName := ⟨RX7, "refusedElement", "(II)I"⟩
abbrev cX7_shift : ByteArray := prog_1_method_41_code
def yX7_shift : MethodName := ⟨RX7, "shift", "(IIIII)I"⟩
abbrev cX7_taken : ByteArray := prog_1_method_42_code
def yX7_taken : MethodName := ⟨RX7, "taken", "(II)I"⟩
abbrev cX7_count : ByteArray := prog_1_method_43_code
def yX7_count : MethodName := ⟨RX7, "count", "(I)I"⟩
abbrev cX7_within : ByteArray := prog_1_method_44_code
def yX7_within : MethodName := ⟨RX7, "within", "(II)Z"⟩
abbrev cX7_lowest : ByteArray := prog_1_method_45_code
def yX7_lowest : MethodName := ⟨RX7, "lowest", "(JJI)J"⟩
abbrev cX7_commonDivisor : ByteArray := prog_1_method_46_code
def yX7_commonDivisor : MethodName := ⟨RX7, "commonDivisor", "(JJ)J"⟩
def RX8 : String := "OtherSideModel"
def TX8 : u_T := fun k => match k with
  | 0 => ("OtherSideModel", "code", "I", false)
  | 1 => ("OtherSideModel", "cards", "I", false)
  | 2 => ("OtherSideModel", "many", "[I", true)
  | 3 => ("OtherSideModel", "first1", "[I", true)
  | 4 => ("OtherSideModel", "second1", "[I", true)
  | 5 => ("OtherSideModel", "aside", "[I", true)
  | 6 => ("OtherSideModel", "red", "[I", true)
  | 7 => ("OtherSideModel", "white", "[I", true)
  | 8 => ("OtherSideModel", "rightIll", "[I", true)
  | 9 => ("OtherSideModel", "rightWell", "[I", true)
  | 10 => ("OtherSideModel", "price", "[I", true)
  | 11 => ("OtherSideModel", "lies", "[I", true)
  | 12 => ("OtherSideModel", "illBefore", "I", false)
  | 13 => ("OtherSideModel", "soBefore", "I", false)
  | 14 => ("OtherSideModel", "quote", "[I", true)
  | 15 => ("OtherSideModel", "doneMany", "I", false)
  | 16 => ("OtherSideModel", "undoneMany", "I", false)
  | 17 => ("OtherSideModel", "changeOf", "[I", true)
  | 18 => ("OtherSideModel", "changeAt", "[I", true)
  | 19 => ("OtherSideModel", "before", "[I", true)
  | 20 => ("OtherSideModel", "behind", "[I", true)
  | 21 => ("OtherSideModel", "ledColour", "[I", true)
  | 22 => ("OtherSideModel", "ledCard", "I", false)
  | 23 => ("OtherSideModel", "tape", "[B", true)
  | 24 => ("OtherSideModel", "taped", "I", false)
  | 25 => ("OtherSideModel", "here", "I", false)
  | 26 => ("OtherSideModel", "fault", "I", false)
  | 27 => ("OtherSideModel", "open", "I", false)
  | 28 => ("OtherSideModel", "laid", "I", false)
  | 29 => ("OtherSideModel", "act", "[B", true)
  | 30 => ("OtherSideModel", "with", "[I", true)
  | 31 => ("OtherSideModel", "lineMany", "[I", true)
  | 32 => ("OtherSideModel", "testEnd", "[S", true)
  | 33 => ("OtherSideModel", "lineEnd", "[S", true)
  | 34 => ("OtherSideModel", "facts", "[I", true)
  | 35 => ("OtherSideModel", "pile", "[I", true)
  | 36 => ("OtherSideModel", "hasLaw", "Z", false)
  | 37 => ("OtherSideModel", "weights", "[I", true)
  | 38 => ("OtherSideModel", "tried", "[I", true)
  | 39 => ("OtherSideModel", "bestOrder", "[I", true)
  | 40 => ("OtherSideModel", "leastPrice", "J", false)
  | 41 => ("OtherSideModel", "stake", "[I", true)
  | 42 => ("OtherSideModel", "bestStake", "[I", true)
  | 43 => ("OtherSideModel", "drawn1", "I", false)
  | 44 => ("OtherSideModel", "lastCard", "I", false)
  | 45 => ("OtherSideModel", "imageCards", "I", false)
  | 46 => ("OtherSideModel", "imageCard", "I", false)
  | 47 => ("OtherSideModel", "imageMany", "[I", true)
  | 48 => ("OtherSideModel", "imageAside", "[I", true)
  | 49 => ("OtherSideModel", "imageColour", "[I", true)
  | 50 => ("OtherSideModel", "bodies", "I", false)
  | 51 => ("OtherSideModel", "kind", "[I", true)
  | 52 => ("OtherSideModel", "traces", "I", false)
  | 53 => ("OtherSideModel", "traced", "[I", true)
  | 54 => ("OtherSideModel", "holds", "[I", true)
  | 55 => ("OtherSideModel", "size", "[I", true)
  | 56 => ("OtherSideModel", "elements", "[J", true)
  | _ => ("OtherSideModel", "shifted", "[J", true)
def tyX8 : Nat → FieldType := fun k => match k with
  | 0 => .int
  | 1 => .int
  | 2 => .array .int
  | 3 => .array .int
  | 4 => .array .int
  | 5 => .array .int
  | 6 => .array .int
  | 7 => .array .int
  | 8 => .array .int
  | 9 => .array .int
  | 10 => .array .int
  | 11 => .array .int
  | 12 => .int
  | 13 => .int
  | 14 => .array .int
  | 15 => .int
  | 16 => .int
  | 17 => .array .int
  | 18 => .array .int
  | 19 => .array .int
  | 20 => .array .int
  | 21 => .array .int
  | 22 => .int
  | 23 => .array .byte
  | 24 => .int
  | 25 => .int
  | 26 => .int
  | 27 => .int
  | 28 => .int
  | 29 => .array .byte
  | 30 => .array .int
  | 31 => .array .int
  | 32 => .array .short
  | 33 => .array .short
  | 34 => .array .int
  | 35 => .array .int
  | 36 => .boolean
  | 37 => .array .int
  | 38 => .array .int
  | 39 => .array .int
  | 40 => .long
  | 41 => .array .int
  | 42 => .array .int
  | 43 => .int
  | 44 => .int
  | 45 => .int
  | 46 => .int
  | 47 => .array .int
  | 48 => .array .int
  | 49 => .array .int
  | 50 => .int
  | 51 => .array .int
  | 52 => .int
  | 53 => .array .int
  | 54 => .array .int
  | 55 => .array .int
  | 56 => .array .long
  | _ => .array .long
theorem nmX8 : ∀ a, a < 58 → ∀ b, b < 58 → a ≠ b → (TX8 a).2.1 ≠ (TX8 b).2.1 := by decide +kernel
theorem tyX8_ok : ∀ k, k < 58 → parseFieldDescriptor (TX8 k).2.2.1 = some (tyX8 k) := by decide +kernel
abbrev cX8_init : ByteArray := prog_10_method_1_code
def yX8_init : MethodName := ⟨RX8, "<init>", "()V"⟩
abbrev cX8_in : ByteArray := prog_10_method_3_code
def yX8_in : MethodName := ⟨RX8, "in", "(III)Z"⟩
abbrev cX8_isCard : ByteArray := prog_10_method_4_code
def yX8_isCard : MethodName := ⟨RX8, "isCard", "(I)Z"⟩
abbrev cX8_isColour : ByteArray := prog_10_method_5_code
def yX8_isColour : MethodName := ⟨RX8, "isColour", "(I)Z"⟩
abbrev cX8_addCard : ByteArray := prog_10_method_6_code
def yX8_addCard : MethodName := ⟨RX8, "addCard", "(III)I"⟩
abbrev cX8_isCardSo : ByteArray := prog_10_method_7_code
def yX8_isCardSo : MethodName := ⟨RX8, "isCardSo", "(III)Z"⟩
abbrev cX8_card : ByteArray := prog_10_method_8_code
def yX8_card : MethodName := ⟨RX8, "card", "(I)I"⟩
abbrev cX8_cards : ByteArray := prog_10_method_9_code
def yX8_cards : MethodName := ⟨RX8, "cards", "(III)I"⟩
abbrev cX8_valueAt : ByteArray := prog_10_method_10_code
def yX8_valueAt : MethodName := ⟨RX8, "valueAt", "(II)I"⟩
abbrev cX8_lays : ByteArray := prog_10_method_11_code
def yX8_lays : MethodName := ⟨RX8, "lays", "(III)V"⟩
abbrev cX8_changes : ByteArray := prog_10_method_12_code
def yX8_changes : MethodName := ⟨RX8, "changes", "(III)I"⟩
abbrev cX8_undo : ByteArray := prog_10_method_13_code
def yX8_undo : MethodName := ⟨RX8, "undo", "()I"⟩
abbrev cX8_redo : ByteArray := prog_10_method_14_code
def yX8_redo : MethodName := ⟨RX8, "redo", "()I"⟩
abbrev cX8_isThing : ByteArray := prog_10_method_15_code
def yX8_isThing : MethodName := ⟨RX8, "isThing", "(II)Z"⟩
abbrev cX8_mostOf : ByteArray := prog_10_method_16_code
def yX8_mostOf : MethodName := ⟨RX8, "mostOf", "(I)I"⟩
abbrev cX8_mend : ByteArray := prog_10_method_17_code
def yX8_mend : MethodName := ⟨RX8, "mend", "(III)I"⟩
abbrev cX8_allCards : ByteArray := prog_10_method_18_code
def yX8_allCards : MethodName := ⟨RX8, "allCards", "()I"⟩
abbrev cX8_of : ByteArray := prog_10_method_19_code
def yX8_of : MethodName := ⟨RX8, "of", "(II)I"⟩
abbrev cX8_feed : ByteArray := prog_10_method_20_code
def yX8_feed : MethodName := ⟨RX8, "feed", "(I)I"⟩
abbrev cX8_look : ByteArray := prog_10_method_21_code
def yX8_look : MethodName := ⟨RX8, "look", "()I"⟩
abbrev cX8_faulty : ByteArray := prog_10_method_22_code
def yX8_faulty : MethodName := ⟨RX8, "faulty", "()V"⟩
abbrev cX8_addStep : ByteArray := prog_10_method_23_code
def yX8_addStep : MethodName := ⟨RX8, "addStep", "(II)V"⟩
abbrev cX8_nameOf : ByteArray := prog_10_method_24_code
def yX8_nameOf : MethodName := ⟨RX8, "nameOf", "(I)I"⟩
abbrev cX8_opens : ByteArray := prog_10_method_25_code
def yX8_opens : MethodName := ⟨RX8, "opens", "()Z"⟩
abbrev cX8_figure : ByteArray := prog_10_method_26_code
def yX8_figure : MethodName := ⟨RX8, "figure", "()V"⟩
abbrev cX8_operand : ByteArray := prog_10_method_27_code
def yX8_operand : MethodName := ⟨RX8, "operand", "()V"⟩
abbrev cX8_product : ByteArray := prog_10_method_28_code
def yX8_product : MethodName := ⟨RX8, "product", "()V"⟩
abbrev cX8_sum : ByteArray := prog_10_method_29_code
def yX8_sum : MethodName := ⟨RX8, "sum", "()V"⟩
abbrev cX8_compared : ByteArray := prog_10_method_30_code
def yX8_compared : MethodName := ⟨RX8, "compared", "()V"⟩
abbrev cX8_both : ByteArray := prog_10_method_31_code
def yX8_both : MethodName := ⟨RX8, "both", "()V"⟩
abbrev cX8_either : ByteArray := prog_10_method_32_code
def yX8_either : MethodName := ⟨RX8, "either", "()V"⟩
abbrev cX8_line : ByteArray := prog_10_method_33_code
def yX8_line : MethodName := ⟨RX8, "line", "()V"⟩
abbrev cX8_readText : ByteArray := prog_10_method_34_code
def yX8_readText : MethodName := ⟨RX8, "readText", "(I)I"⟩
abbrev cX8_twoOf : ByteArray := prog_10_method_35_code
def yX8_twoOf : MethodName := ⟨RX8, "twoOf", "(III)I"⟩
abbrev cX8_worked : ByteArray := prog_10_method_36_code
def yX8_worked : MethodName := ⟨RX8, "worked", "(III)I"⟩
abbrev cX8_gives : ByteArray := prog_10_method_37_code
def yX8_gives : MethodName := ⟨RX8, "gives", "(I)I"⟩
abbrev cX8_law : ByteArray := prog_10_method_38_code
def yX8_law : MethodName := ⟨RX8, "law", "()I"⟩
abbrev cX8_ownWeight : ByteArray := prog_10_method_39_code
def yX8_ownWeight : MethodName := ⟨RX8, "ownWeight", "(II)I"⟩
abbrev cX8_findWeights : ByteArray := prog_10_method_40_code
def yX8_findWeights : MethodName := ⟨RX8, "findWeights", "()V"⟩
abbrev cX8_sumOf : ByteArray := prog_10_method_41_code
def yX8_sumOf : MethodName := ⟨RX8, "sumOf", "(I)I"⟩
abbrev cX8_weight : ByteArray := prog_10_method_42_code
def yX8_weight : MethodName := ⟨RX8, "weight", "(II)I"⟩
abbrev cX8_shows : ByteArray := prog_10_method_43_code
def yX8_shows : MethodName := ⟨RX8, "shows", "(II)J"⟩
abbrev cX8_power : ByteArray := prog_10_method_44_code
def yX8_power : MethodName := ⟨RX8, "power", "(JI)J"⟩
abbrev cX8_allShow : ByteArray := prog_10_method_45_code
def yX8_allShow : MethodName := ⟨RX8, "allShow", "(II)J"⟩
abbrev cX8_asPart : ByteArray := prog_10_method_46_code
def yX8_asPart : MethodName := ⟨RX8, "asPart", "(JJI)J"⟩
abbrev cX8_isPart : ByteArray := prog_10_method_47_code
def yX8_isPart : MethodName := ⟨RX8, "isPart", "(I)Z"⟩
abbrev cX8_shown : ByteArray := prog_10_method_48_code
def yX8_shown : MethodName := ⟨RX8, "shown", "(II)J"⟩
abbrev cX8_other : ByteArray := prog_10_method_49_code
def yX8_other : MethodName := ⟨RX8, "other", "(II)J"⟩
abbrev cX8_isShown : ByteArray := prog_10_method_50_code
def yX8_isShown : MethodName := ⟨RX8, "isShown", "(I)Z"⟩
abbrev cX8_which : ByteArray := prog_10_method_51_code
def yX8_which : MethodName := ⟨RX8, "which", "(III)J"⟩
abbrev cX8_again : ByteArray := prog_10_method_52_code
def yX8_again : MethodName := ⟨RX8, "again", "(II)J"⟩
abbrev cX8_rowFault : ByteArray := prog_10_method_53_code
def yX8_rowFault : MethodName := ⟨RX8, "rowFault", "(I)I"⟩
abbrev cX8_byteAt : ByteArray := prog_10_method_54_code
def yX8_byteAt : MethodName := ⟨RX8, "byteAt", "(II)I"⟩
abbrev cX8_rowShows : ByteArray := prog_10_method_55_code
def yX8_rowShows : MethodName := ⟨RX8, "rowShows", "(I)J"⟩
abbrev cX8_cheated : ByteArray := prog_10_method_56_code
def yX8_cheated : MethodName := ⟨RX8, "cheated", "(I)I"⟩
abbrev cX8_judge : ByteArray := prog_10_method_57_code
def yX8_judge : MethodName := ⟨RX8, "judge", "(I)I"⟩
abbrev cX8_lastRed : ByteArray := prog_10_method_58_code
def yX8_lastRed : MethodName := ⟨RX8, "lastRed", "(IZ)J"⟩
abbrev cX8_handed : ByteArray := prog_10_method_59_code
def yX8_handed : MethodName := ⟨RX8, "handed", "(III)J"⟩
abbrev cX8_ill : ByteArray := prog_10_method_60_code
def yX8_ill : MethodName := ⟨RX8, "ill", "(II)J"⟩
abbrev cX8_meanPrice : ByteArray := prog_10_method_61_code
def yX8_meanPrice : MethodName := ⟨RX8, "meanPrice", "()J"⟩
abbrev cX8_goOrders : ByteArray := prog_10_method_62_code
def yX8_goOrders : MethodName := ⟨RX8, "goOrders", "(II)V"⟩
abbrev cX8_order : ByteArray := prog_10_method_63_code
def yX8_order : MethodName := ⟨RX8, "order", "(II)J"⟩
abbrev cX8_isSo : ByteArray := prog_10_method_64_code
def yX8_isSo : MethodName := ⟨RX8, "isSo", "(II)J"⟩
abbrev cX8_tooMany : ByteArray := prog_10_method_65_code
def yX8_tooMany : MethodName := ⟨RX8, "tooMany", "(II)J"⟩
abbrev cX8_next : ByteArray := prog_10_method_66_code
def yX8_next : MethodName := ⟨RX8, "next", "(II)J"⟩
abbrev cX8_leastLoss : ByteArray := prog_10_method_67_code
def yX8_leastLoss : MethodName := ⟨RX8, "leastLoss", "()I"⟩
abbrev cX8_sure : ByteArray := prog_10_method_68_code
def yX8_sure : MethodName := ⟨RX8, "sure", "(I)I"⟩
abbrev cX8_drawOne : ByteArray := prog_10_method_69_code
def yX8_drawOne : MethodName := ⟨RX8, "drawOne", "(I)I"⟩
abbrev cX8_show : ByteArray := prog_10_method_70_code
def yX8_show : MethodName := ⟨RX8, "show", "()I"⟩
abbrev cX8_drawn : ByteArray := prog_10_method_71_code
def yX8_drawn : MethodName := ⟨RX8, "drawn", "(III)I"⟩
abbrev cX8_draw : ByteArray := prog_10_method_72_code
def yX8_draw : MethodName := ⟨RX8, "draw", "(I)I"⟩
abbrev cX8_asideMany : ByteArray := prog_10_method_73_code
def yX8_asideMany : MethodName := ⟨RX8, "asideMany", "()I"⟩
abbrev cX8_putBack : ByteArray := prog_10_method_74_code
def yX8_putBack : MethodName := ⟨RX8, "putBack", "()I"⟩
abbrev cX8_image : ByteArray := prog_10_method_75_code
def yX8_image : MethodName := ⟨RX8, "image", "()I"⟩
abbrev cX8_back : ByteArray := prog_10_method_76_code
def yX8_back : MethodName := ⟨RX8, "back", "()I"⟩
abbrev cX8_isBody : ByteArray := prog_10_method_77_code
def yX8_isBody : MethodName := ⟨RX8, "isBody", "(I)Z"⟩
abbrev cX8_ran : ByteArray := prog_10_method_78_code
def yX8_ran : MethodName := ⟨RX8, "ran", "(I)V"⟩
abbrev cX8_trace : ByteArray := prog_10_method_79_code
def yX8_trace : MethodName := ⟨RX8, "trace", "(I)I"⟩
abbrev cX8_body : ByteArray := prog_10_method_80_code
def yX8_body : MethodName := ⟨RX8, "body", "(I)I"⟩
abbrev cX8_isUnder : ByteArray := prog_10_method_81_code
def yX8_isUnder : MethodName := ⟨RX8, "isUnder", "(II)Z"⟩
abbrev cX8_plainShows : ByteArray := prog_10_method_82_code
def yX8_plainShows : MethodName := ⟨RX8, "plainShows", "(II)I"⟩
abbrev cX8_toldShows : ByteArray := prog_10_method_83_code
def yX8_toldShows : MethodName := ⟨RX8, "toldShows", "(II)I"⟩
abbrev cX8_showing : ByteArray := prog_10_method_84_code
def yX8_showing : MethodName := ⟨RX8, "showing", "(II)I"⟩
abbrev cX8_plainDraws : ByteArray := prog_10_method_85_code
def yX8_plainDraws : MethodName := ⟨RX8, "plainDraws", "(II)I"⟩
abbrev cX8_urnDraws : ByteArray := prog_10_method_86_code
def yX8_urnDraws : MethodName := ⟨RX8, "urnDraws", "(II)I"⟩
abbrev cX8_drawing : ByteArray := prog_10_method_87_code
def yX8_drawing : MethodName := ⟨RX8, "drawing", "(II)I"⟩
abbrev cX8_plainLeaves : ByteArray := prog_10_method_88_code
def yX8_plainLeaves : MethodName := ⟨RX8, "plainLeaves", "(II)I"⟩
abbrev cX8_testLeaves : ByteArray := prog_10_method_89_code
def yX8_testLeaves : MethodName := ⟨RX8, "testLeaves", "(II)I"⟩
abbrev cX8_leaving : ByteArray := prog_10_method_90_code
def yX8_leaving : MethodName := ⟨RX8, "leaving", "(II)I"⟩
abbrev cX8_plainTells : ByteArray := prog_10_method_91_code
def yX8_plainTells : MethodName := ⟨RX8, "plainTells", "(II)I"⟩
abbrev cX8_telling : ByteArray := prog_10_method_92_code
def yX8_telling : MethodName := ⟨RX8, "telling", "(II)I"⟩
abbrev cX8_act : ByteArray := prog_10_method_93_code
def yX8_act : MethodName := ⟨RX8, "act", "(III)I"⟩
abbrev cX8_count : ByteArray := prog_10_method_94_code
def yX8_count : MethodName := ⟨RX8, "count", "(I)I"⟩
abbrev cX8_isShelf : ByteArray := prog_10_method_95_code
def yX8_isShelf : MethodName := ⟨RX8, "isShelf", "(I)Z"⟩
abbrev cX8_keep : ByteArray := prog_10_method_96_code
def yX8_keep : MethodName := ⟨RX8, "keep", "(II)I"⟩
abbrev cX8_row : ByteArray := prog_10_method_97_code
def yX8_row : MethodName := ⟨RX8, "row", "(III)I"⟩
abbrev cX8_whyNoPlace : ByteArray := prog_10_method_98_code
def yX8_whyNoPlace : MethodName := ⟨RX8, "whyNoPlace", "(II)I"⟩
abbrev cX8_put : ByteArray := prog_10_method_99_code
def yX8_put : MethodName := ⟨RX8, "put", "(IIJ)I"⟩
abbrev cX8_element : ByteArray := prog_10_method_100_code
def yX8_element : MethodName := ⟨RX8, "element", "(II)J"⟩
abbrev cX8_shift : ByteArray := prog_10_method_101_code
def yX8_shift : MethodName := ⟨RX8, "shift", "(IIIII)I"⟩
abbrev cX8_taken : ByteArray := prog_10_method_102_code
def yX8_taken : MethodName := ⟨RX8, "taken", "(II)I"⟩
def RL : String := "OtherSideLaw"
abbrev cL_law : ByteArray := code
def yL_law : MethodName := ⟨RL, "law", "([I)Z"⟩
end
section
/-! the state of all cells at once, and one judgement over it -/
def TT : List Cond := lw_tbl.filter goodWord
theorem TT_good : ∀ w ∈ TT, goodWord w = true := fun w h => (List.mem_filter.mp h).2
theorem TT_of {w : Cond} (h : w ∈ lw_tbl) (hg : goodWord w = true) : w ∈ TT := List.mem_filter.mpr ⟨h, hg⟩
theorem TT_at {w : Cond} (i : Nat) (h : tables_1[i]? = some w) (hg : goodWord w = true) : w ∈ TT := TT_of (List.mem_append_right _ (List.mem_of_getElem? h)) hg
def isNest : Cond → Bool
  | .fieldLinkNest .. => true
  | .methodLinkNest .. => true
  | _ => false
def NW : List Cond := tables_1.filter isNest
theorem NW_at {w : Cond} (i : Nat) (h : tables_1[i]? = some w) (hg : isNest w = true) : w ∈ NW := List.mem_filter.mpr ⟨List.mem_of_getElem? h, hg⟩
theorem NW_warm {s U : State} (hW : s.WarmedH U.vm) (h : ∀ w ∈ NW, va_Nw w s) : ∀ w ∈ NW, va_Nw w U := by
  intro w hw
  have h1 := (List.mem_filter.mp hw).2
  have h2 := h w hw
  cases w with
  | fieldLinkNest a i b n d e => exact va_Nw.warmF hW h2
  | methodLinkNest a i x e => exact va_Nw.warmM hW h2
  | _ => cases h1
theorem NW_same {s U : State} (hW : s.vm = U.vm) (h : ∀ w ∈ NW, va_Nw w s) : ∀ w ∈ NW, va_Nw w U := by
  intro w hw
  have h1 := (List.mem_filter.mp hw).2
  have h2 := h w hw
  cases w with
  | fieldLinkNest a i b n d e => exact va_Nw.same rfl hW h2
  | methodLinkNest a i x e => exact va_Nw.same rfl hW h2
  | _ => cases h1
abbrev MI : Type := MethodName × ByteArray × Nat × Option FieldType
abbrev St : Type := (Nat → Nat → Int32) × (Nat → Nat → Int64) × (Nat × Nat)
abbrev DD : Type := va_G × (Nat → ClassId)
def zz_Cl : List vw_C := [(RX0, TX0, 6), (RX1, TX1, 9), (RX2, TX2, 15), (RX3, TX3, 3), (RX4, TX4, 5), (RX5, TX5, 1), (RX6, TX6, 9), (RX7, TX7, 9), (RX8, TX8, 58)]
def zz_ck : List (Nat × Nat) := [(0, 7), (0, 6), (0, 2), (0, 5), (0, 3), (0, 1), (0, 0), (5, 6), (0, 4), (0, 4), (0, 4), (0, 4), (0, 4), (0, 4), (1, 120), (6, 12), (1, 8), (1, 8), (1, 8), (1, 8), (1, 8), (1, 8), (1, 8), (1, 8), (1, 8), (1, 8), (1, 8), (1, 8), (1, 40), (1, 40), (1, 40), (1, 40), (1, 128), (1, 128), (1, 120), (1, 128), (6, 8), (1, 2), (1, 2), (1, 2), (1, 2), (1, 2), (1, 2), (1, 2), (1, 2), (1, 4), (1, 4), (1, 3), (1, 8), (1, 6), (1, 8), (1, 8), (1, 6), (1, 50), (1, 24), (4, 60), (4, 60), (4, 60), (4, 60), (4, 60), (4, 60), (0, 8), (1, 8), (1, 8), (1, 8), (1, 8), (1, 4), (1, 4), (1, 4), (1, 4), (1, 4), (1, 6), (1, 3), (1, 40), (1, 40), (1, 40), (1, 40), (1, 6), (2, 120), (2, 260), (1, 260), (1, 2), (3, 122), (3, 122), (1, 5), (1, 130), (1, 16), (1, 4), (1, 4), (1, 3), (1, 3), (1, 8), (1, 8), (1, 6), (1, 50), (1, 24), (1, 6), (1, 6), (4, 360), (4, 60)]
def ck (j : Nat) : Nat × Nat := zz_ck.getD j (9, 0)
def zz_nf : List Nat := [6, 9, 15, 3, 5, 1, 9, 9, 58]
def nf (ci : Nat) : Nat := zz_nf.getD ci 0
def zz_ft : List (List Nat) := [[2, 0, 2, 0, 0, 0], [0, 2, 2, 0, 2, 2, 2, 0, 0], [2, 0, 2, 0, 2, 0, 0, 0, 2, 0, 0, 0, 0, 0, 0], [2, 2, 2], [0, 0, 0, 0, 2], [2], [2, 0, 2, 2, 2, 2, 0, 0, 0], [2, 2, 2, 2, 2, 2, 2, 2, 0], [0, 0, 2, 2, 2, 2, 2, 2, 2, 2, 2, 2, 0, 0, 2, 0, 0, 2, 2, 2, 2, 2, 0, 2, 0, 0, 0, 0, 0, 2, 2, 2, 2, 2, 2, 2, 3, 2, 2, 2, 1, 2, 2, 0, 0, 0, 0, 2, 2, 2, 0, 2, 0, 2, 2, 2, 2, 2]]
def ft (ci k : Nat) : Nat := (zz_ft.getD ci []).getD k 9
def zz_rt : List (List Nat) := [[1, 2, 3, 4, 5, 6, 7, 14], [15, 0, 28, 29, 30, 31], [0, 0, 0, 0, 34, 0, 0, 0, 35], [36], [45, 46, 47], [0, 48, 49, 0, 50, 51, 52], [53, 0, 54], [8, 9, 10, 11, 12, 13], [0, 0, 0, 0, 55], [0, 0, 0, 0, 56], [0, 0, 0, 0, 57], [0, 0, 0, 0, 58], [0, 0, 0, 0, 59], [0, 0, 0, 0, 60], [], [16, 17, 18, 19, 20, 21, 22, 23, 24, 25, 26, 27], [], [], [], [], [], [], [], [], [], [], [], [], [], [], [], [], [], [], [], [], [37, 38, 39, 40, 41, 42, 43, 44], [], [], [], [], [], [], [], [], [], [], [], [], [], [], [], [], [], [], [], [], [], [], [], [], [0, 0, 62, 63, 64, 65, 66, 67, 68, 69, 70, 71, 0, 0, 72, 0, 0, 73, 74, 75, 76, 77, 0, 78, 0, 0, 0, 0, 0, 79, 80, 81, 82, 83, 84, 85, 0, 86, 87, 88, 0, 89, 90, 0, 0, 0, 0, 91, 92, 93, 0, 94, 0, 95, 96, 97, 98, 99], [], [], [], [], [], [], [], [], [], [], [], [], [], [], [], [], [], [], [], [], [], [], [], [], [], [], [], [], [], [], [], [], [], [], [], [], [], []]
def rt (j k : Nat) : Nat := (zz_rt.getD j []).getD k 0
def fr (S : St) (j k : Nat) : Nat := if j = 2 ∧ k = 0 then S.2.2.1 else if j = 2 ∧ k = 2 then S.2.2.2 else rt j k
def zz_st : List (String × String × List Int32) := [(RX6, "NUMBERS", [8, 8, 8, 4, 4, 4, 4, 4, 6, 1, 1, 3]), (RX6, "MOST", [9, 5, 5, 9, 9, 12, 12, 99, 12, 99, 12, 12]), (RX6, "AT_FIRST", [0, 0, 0, 1, 1, 9, 9, 10, 3, 10, 2, 4]), (RX0, "ABOVE", [-1, 0, 0, 2, 1, 3, 0, 6]), (RX0, "OWN", [1, 10, 11, 2, 20, 0, 0, 0, 0, 30, 0, 0, 0, 41, 40, 0, 0, 0, 0, 50, 0, 0, 60, 61, 70, 0, 0, 0, 81, 80, 0, 0])]


def fv (a : Nat → Nat) (S : St) (j k : Nat) : Value := match ft (ck j).2 k with
  | 0 => .int (S.1 j k)
  | 3 => .int (S.1 j k)
  | 1 => .long (S.2.1 j k)
  | _ => .ref (a (fr S j k))
def cont (D : DD) (a : Nat → Nat) (S : St) (j : Nat) : va_E := match (ck j).1 with
  | 0 => .inr ((ck j).2, (List.range (nf (ck j).2)).map (fv a S j))
  | 1 => .inl (D.2 0, (ck j).2, .inl (S.1 j))
  | 2 => .inl (D.2 1, (ck j).2, .inl (S.1 j))
  | 3 => .inl (D.2 2, (ck j).2, .inl (S.1 j))
  | 4 => .inl (D.2 3, (ck j).2, .inr (.inl (S.2.1 j)))
  | 5 => .inl (D.2 4, (ck j).2, .inr (.inr (.inr (.inr (fun k => some (a (fr S j k)))))))
  | _ => .inl (D.2 5, (ck j).2, .inr (.inr (.inr (.inr (fun k => some (a (fr S j k)))))))
def cells (D : DD) (a : Nat → Nat) (S : St) : va_W := (List.range 100).map (fun j => (a j, cont D a S j))
theorem cells_get {D : DD} {a : Nat → Nat} {S : St} {j : Nat} (hj : j < 100) : (cells D a S)[j]? = some (a j, cont D a S j) := by
  simp [cells, List.getElem?_map, List.getElem?_range hj]
theorem cells_set {D : DD} {a : Nat → Nat} {S S' : St} {j : Nat} {e : va_E} (h : ∀ i, i ≠ j → cont D a S' i = cont D a S i) (he : cont D a S' j = e) : (cells D a S).set j (a j, e) = cells D a S' := by
  apply List.ext_getElem?
  intro i
  by_cases hi : i < 100
  · rw [cells_get hi]
    by_cases hij : j = i
    · subst hij
      rw [List.getElem?_set_self (by simpa [cells] using hi), he]
    · rw [List.getElem?_set_ne hij, cells_get hi, h i (fun q => hij q.symm)]
  · rw [List.getElem?_eq_none (by simpa [cells] using hi), List.getElem?_eq_none (by simpa [cells] using hi)]
def AA (a : Nat → Nat) : Nat → Prop := fun q => ∃ j, j < 100 ∧ q = a j
def InjA (a : Nat → Nat) : Prop := ∀ i j, i < 100 → j < 100 → a i = a j → i = j
theorem cells_mem {D : DD} {a : Nat → Nat} {S : St} {k : Nat} {q : Nat × va_E} (h : (cells D a S)[k]? = some q) : k < 100 ∧ q = (a k, cont D a S k) := by
  have hk : k < 100 := by
    have := (List.getElem?_eq_some_iff.mp h).1
    simpa [cells] using this
  rw [cells_get hk] at h
  exact ⟨hk, (Option.some.inj h).symm⟩
theorem cells_D {D : DD} {a : Nat → Nat} {S : St} (h : InjA a) : va_D (AA a) (cells D a S) := by
  refine ⟨fun i j p q hi hj hpq => ?_, fun k q hk => ?_⟩
  · obtain ⟨i1, rfl⟩ := cells_mem hi
    obtain ⟨j1, rfl⟩ := cells_mem hj
    exact h i j i1 j1 hpq
  · obtain ⟨k1, rfl⟩ := cells_mem hk
    exact ⟨k, k1, rfl⟩
def zz_tys (D : DD) : List (ClassId × FieldType) := [(D.2 0, .int), (D.2 1, .byte), (D.2 2, .short), (D.2 3, .long), (D.2 4, .object RX4), (D.2 5, .array .int)]
def Stat (a : Nat → Nat) (U : State) (H : Heap) : Prop := ∀ (i : Nat) (C n : String) (L : List Int32), zz_st[i]? = some (C, n, L) → va_Z C n "[I" (.ref (a (200 + i))) (AA a) U H ∧ va_T .int (a (200 + i)) L.length (fun j => .int (L.getD j 0)) (AA a) U H
/-- the enumerated locals: .null says nothing -/
def en : Nat → List Value → List (Nat × Value)
  | _, [] => []
  | i, .null :: vs => en (i + 1) vs
  | i, v :: vs => (i, v) :: en (i + 1) vs
theorem mem_en {v : Value} (hv : v ≠ .null) : ∀ (L : List Value) (b i : Nat), (i, v) ∈ en b L ↔ b ≤ i ∧ L[i - b]? = some v := by
  intro L
  induction L with
  | nil => intro b i; simp [en]
  | cons w L ih =>
    intro b i
    have key : (i, v) ∈ en b (w :: L) ↔ (i = b ∧ v = w) ∨ (i, v) ∈ en (b + 1) L := by
      cases w with
      | null => simp [en, hv]
      | _ => simp [en]
    rw [key, ih]
    by_cases hb : b = i
    · subst hb
      simp
      constructor
      · rintro (h | h)
        · exact h.symm
        · omega
      · intro h; exact Or.inl h.symm
    · constructor
      · rintro (h | ⟨h1, h2⟩)
        · exact absurd h.1.symm hb
        · refine ⟨by omega, ?_⟩
          rw [show i - b = (i - (b + 1)) + 1 by omega]
          simpa using h2
      · rintro ⟨h1, h2⟩
        refine Or.inr ⟨by omega, ?_⟩
        rw [show i - b = (i - (b + 1)) + 1 by omega] at h2
        simpa using h2
theorem en_nn {q : Nat × Value} : ∀ (L : List Value) (b : Nat), q ∈ en b L → q.2 ≠ .null := by
  intro L
  induction L with
  | nil => intro b h; simp [en] at h
  | cons w L ih =>
    intro b h
    cases w with
    | null => exact ih _ (by simpa [en] using h)
    | _ =>
      rcases List.mem_cons.mp (by simpa only [en] using h) with h | h
      · rw [h]; simp
      · exact ih _ h
theorem lv_less {ls : Array Slot} {nL : Nat} {l l' : List (Nat × Value)} (h : lv_has ls nL l) (hs : ∀ q ∈ l', q ∈ l) : lv_has ls nL l' := ⟨h.1, h.2.1, fun q hq => h.2.2 q (hs q hq)⟩
def lx (ls : Array Slot) (nL : Nat) (L : List Value) : Prop := lv_has ls nL (en 0 L)
theorem lx_at {ls : Array Slot} {nL : Nat} {L : List Value} (h : lx ls nL L) {i : Nat} {v : Value} (hv : v ≠ .null) (hi : L[i]? = some v) : ls[i]? = some (.val v) := h.2.2 (i, v) ((mem_en hv L 0 i).mpr ⟨Nat.zero_le _, by simpa using hi⟩)
theorem lx_ix {ls : Array Slot} {nL : Nat} {L : List Value} (_h : lx ls nL L) {i : Nat} {v : Value} (hv : v ≠ .null) (hi : L[i]? = some v) : ∃ k : Nat, (en 0 L)[k]? = some (i, v) := List.getElem?_of_mem ((mem_en hv L 0 i).mpr ⟨Nat.zero_le _, by simpa using hi⟩)
theorem lx_of1 {ls : Array Slot} {nL : Nat} {L : List Value} {i : Nat} {x : Value} (hp : ∀ w, 1 ≤ i → L[i - 1]? = some w → w.category = 1) (h : lv_has ls nL ((i, x) :: (en 0 L).filter (fun q => !(q.1 == i) && !(q.1 + 1 == i && q.2.category == 2)))) : lx ls nL (L.set i x) := by
  refine lv_less h (fun q hq => ?_)
  obtain ⟨j, v⟩ := q
  have hv : v ≠ .null := en_nn _ _ hq
  have h1 := (mem_en hv _ 0 j).mp hq
  have h2 : (L.set i x)[j]? = some v := by simpa using h1.2
  by_cases hj : i = j
  · subst hj
    have hl : i < L.length := by
      have := (List.getElem?_eq_some_iff.mp h2).1
      simpa using this
    rw [List.getElem?_set_self hl] at h2
    cases h2
    exact List.mem_cons_self
  · rw [List.getElem?_set_ne hj] at h2
    refine List.mem_cons_of_mem _ (List.mem_filter.mpr ⟨(mem_en hv _ 0 j).mpr ⟨Nat.zero_le _, by simpa using h2⟩, ?_⟩)
    have e1 : (j == i) = false := by simpa using fun q : j = i => hj q.symm
    have e2 : (j + 1 == i && v.category == 2) = false := by
      by_cases hji : j + 1 = i
      · have := hp v (by omega) (by rw [show i - 1 = j by omega]; exact h2)
        simp [this]
      · simp [hji]
    simp only [e1, e2]
    rfl
theorem lx_of2 {ls : Array Slot} {nL : Nat} {L : List Value} {i : Nat} {x : Value} (hp : ∀ w, 1 ≤ i → L[i - 1]? = some w → w.category = 1) (h : lv_has ls nL ((i, x) :: (en 0 L).filter (fun q => !(q.1 == i) && (!(q.1 == i + 1) && !(q.1 + 1 == i && q.2.category == 2))))) : lx ls nL ((L.set i x).set (i + 1) .null) := by
  refine lv_less h (fun q hq => ?_)
  obtain ⟨j, v⟩ := q
  have hv : v ≠ .null := en_nn _ _ hq
  have h1 := (mem_en hv _ 0 j).mp hq
  have h2 : ((L.set i x).set (i + 1) .null)[j]? = some v := by simpa using h1.2
  by_cases hj1 : i + 1 = j
  · subst hj1
    have hl : i + 1 < (L.set i x).length := by
      have := (List.getElem?_eq_some_iff.mp h2).1
      simpa using this
    rw [List.getElem?_set_self hl] at h2
    exact absurd (Option.some.inj h2).symm hv
  rw [List.getElem?_set_ne hj1] at h2
  by_cases hj : i = j
  · subst hj
    have hl : i < L.length := by
      have := (List.getElem?_eq_some_iff.mp h2).1
      simpa using this
    rw [List.getElem?_set_self hl] at h2
    cases h2
    exact List.mem_cons_self
  · rw [List.getElem?_set_ne hj] at h2
    refine List.mem_cons_of_mem _ (List.mem_filter.mpr ⟨(mem_en hv _ 0 j).mpr ⟨Nat.zero_le _, by simpa using h2⟩, ?_⟩)
    have e1 : (j == i) = false := by simpa using fun q : j = i => hj q.symm
    have e3 : (j == i + 1) = false := by simpa using fun q : j = i + 1 => hj1 q.symm
    have e2 : (j + 1 == i && v.category == 2) = false := by
      by_cases hji : j + 1 = i
      · have := hp v (by omega) (by rw [show i - 1 = j by omega]; exact h2)
        simp [this]
      · simp [hji]
    simp only [e1, e2, e3]
    rfl
/-- fewer locals are told -/
theorem lx_less {ls : Array Slot} {nL : Nat} {L L' : List Value} (h : lx ls nL L) (hs : ∀ (i : Nat) (v : Value), L'[i]? = some v → v ≠ .null → L[i]? = some v) : lx ls nL L' := by
  refine lv_less h (fun q hq => ?_)
  obtain ⟨j, v⟩ := q
  have hv : v ≠ .null := en_nn _ _ hq
  have h1 := (mem_en hv _ 0 j).mp hq
  exact (mem_en hv _ 0 j).mpr ⟨Nat.zero_le _, by simpa using hs j v (by simpa using h1.2) hv⟩
/-- a method's locals at its entry -/
def xp : List Value → List Value
  | [] => []
  | v :: vs => if v.category = 2 then v :: .null :: xp vs else v :: xp vs
def ent (n : Nat) (As : List Value) : List Value := xp As ++ List.replicate (n - (xp As).length) .null
theorem mem_xp {v : Value} (hv : v ≠ .null) : ∀ (As : List Value) (b i : Nat), b ≤ i → (xp As)[i - b]? = some v → (i, v) ∈ lv_args b As := by
  intro As
  induction As with
  | nil => intro b i _ h; simp [xp] at h
  | cons w As ih =>
    intro b i hb h
    by_cases hc : w.category = 2
    · simp only [xp, hc, if_true] at h
      simp only [lv_args, hc, if_true]
      by_cases e : i = b
      · subst e
        simp at h
        subst h
        exact List.mem_cons_self
      · by_cases e1 : i = b + 1
        · subst e1
          rw [show b + 1 - b = 1 by omega] at h
          exact absurd (by simpa using h.symm) hv
        · refine List.mem_cons_of_mem _ (ih (b + 2) i (by omega) ?_)
          rw [show i - b = (i - (b + 2)) + 2 by omega] at h
          simpa using h
    · simp only [xp, hc, if_false] at h
      simp only [lv_args, hc, if_false]
      by_cases e : i = b
      · subst e
        simp at h
        subst h
        exact List.mem_cons_self
      · refine List.mem_cons_of_mem _ (ih (b + 1) i (by omega) ?_)
        rw [show i - b = (i - (b + 1)) + 1 by omega] at h
        simpa using h
theorem lx_entry (As : List Value) {n : Nat} (h : (lg_sl As).length ≤ n) : lx ((lg_sl As ++ List.replicate (n - (lg_sl As).length) Slot.unset).toArray) n (ent n As) := by
  refine lv_less (lv_entry As h) (fun q hq => ?_)
  obtain ⟨j, v⟩ := q
  have hv : v ≠ .null := en_nn _ _ hq
  have h1 := ((mem_en hv _ 0 j).mp hq).2
  rw [ent, List.getElem?_append] at h1
  split at h1
  · exact mem_xp hv As 0 j (Nat.zero_le _) h1
  · rw [List.getElem?_replicate] at h1
    split at h1
    · exact absurd (Option.some.inj h1).symm hv
    · cases h1
/-- what is fixed while a method runs -/
def Cx (p : Program) (R : Room) (s : State) (m : MethodId) (args : Array Value) (meth : Method) (c : Code) (D : DD) (a : Nat → Nat) (mi : MI) (d k n : Nat) (E : State → Prop) : Prop :=
  p.tables.exec = Jvm.exec ∧ c.code = mi.2.1 ∧ c.maxLocals = mi.2.2.1 ∧ meth.sig.returnType = mi.2.2.2 ∧ meth.locks = false ∧ s.vm.findClass mi.1.cls = some m.cls ∧ (∀ w ∈ TT, w.before args s = true) ∧ (d ≤ R.frames ∧ 60 * d ≤ R.locals ∧ k ≤ R.cells ∧ n ≤ R.slots) ∧ va_K D.1 zz_Cl (zz_tys D) s ∧ InjA a ∧ Stat a s s.heap ∧ (∀ w ∈ NW, va_Nw w s) ∧ E s
/-- the room taken so far, what else holds at the start, the end -/
abbrev GG : Type := Nat × Nat × (State → Prop) × (List Frame → Array Value → State → DD → State → Prop)
def PQ (D : DD) (a : Nat → Nat) (Q : Option Value → St → Prop) : Array Value → State → Outcome → State → Prop := fun _ st oc t => (∃ (r : Option Value) (S : St), oc = .returned r ∧ Q r S ∧ va_P D.1 zz_Cl (cells D a S) t.heap) ∧ va_F (AA a) st t
def gm (a : Nat → Nat) (Q : Option Value → St → Prop) : GG := (0, 0, (fun _ => True), fun below args s D => MQ below (PQ D a Q) args s 0 0 (AA a))
def J (a : Nat → Nat) (mi : MI) (d : Nat) (g : GG) (pc : Nat) (L st : List Value) (S : St) : Prop :=
  ∀ (p : Program) (l : Launch) (e : Env) (R : Room) (s : State) (m : MethodId) (args : Array Value) (below : List Frame) (meth : Method) (c : Code) (D : DD) (H : Heap) (locs : List Loc) (ls : Array Slot), Cx p R s m args meth c D a mi d g.1 g.2.1 g.2.2.1 → lx ls mi.2.2.1 L → va_P D.1 zz_Cl (cells D a S) H → va_S (AA a) s.heap H locs → W p l e R s m args below meth c H locs g.1 g.2.1 (g.2.2.2 below args s D) (F0 m pc ls st)
end
section
/-! rows of the judgement J: an instruction each -/
section Rows
variable {a : Nat → Nat} {mi : MI} {d : Nat} {g : GG} {pc : Nat} {L st : List Value} {S : St}

theorem j_iconst {n : Int} (v : Int32) (hd : decode mi.2.1 pc = .ok (.iconst n, 1)) (hv : Int32.ofInt n = v := by rfl) (k : J a mi d g (pc + 1) (L) (.int v :: st) (S)) : J a mi d g (pc) (L) (st) (S) := by
  intro p l e R s m args below meth c D H locs ls C hl hP hS
  exact lv_iconst C.1 C.2.1 hd hv (k p l e R s m args below meth c D H locs ls C hl hP hS)
theorem j_bipush {n : Int} (v : Int32) (hd : decode mi.2.1 pc = .ok (.bipush n, 2)) (hv : (Int8.ofInt n).toInt32 = v := by rfl) (k : J a mi d g (pc + 2) (L) (.int v :: st) (S)) : J a mi d g (pc) (L) (st) (S) := by
  intro p l e R s m args below meth c D H locs ls C hl hP hS
  exact lv_bipush C.1 C.2.1 hd hv (k p l e R s m args below meth c D H locs ls C hl hP hS)
theorem j_sipush {n : Int} (v : Int32) (hd : decode mi.2.1 pc = .ok (.sipush n, 3)) (hv : (Int16.ofInt n).toInt32 = v := by rfl) (k : J a mi d g (pc + 3) (L) (.int v :: st) (S)) : J a mi d g (pc) (L) (st) (S) := by
  intro p l e R s m args below meth c D H locs ls C hl hP hS
  exact lv_sipush C.1 C.2.1 hd hv (k p l e R s m args below meth c D H locs ls C hl hP hS)
theorem j_lconst {n : Fin 2} (v : Int64) (hd : decode mi.2.1 pc = .ok (.lconst n, 1)) (hv : Int64.ofNat (n : Nat) = v := by rfl) (k : J a mi d g (pc + 1) (L) (.long v :: st) (S)) : J a mi d g (pc) (L) (st) (S) := by
  intro p l e R s m args below meth c D H locs ls C hl hP hS
  exact lv_lconst C.1 C.2.1 hd hv (k p l e R s m args below meth c D H locs ls C hl hP hS)
theorem j_ldc {i : Nat} {v : Int32} (hd : decode mi.2.1 pc = .ok (.ldc i, 2)) (hc : Cond.constant mi.1.cls i v ∈ TT) (k : J a mi d g (pc + 2) (L) (.int v :: st) (S)) : J a mi d g (pc) (L) (st) (S) := by
  intro p l e R s m args below meth c D H locs ls C hl hP hS
  exact lv_ldc C.1 C.2.1 C.2.2.2.2.2.1 (C.2.2.2.2.2.2.1 _ hc) hd (k p l e R s m args below meth c D H locs ls C hl hP hS)
theorem j_ldc_w {i : Nat} {v : Int32} (hd : decode mi.2.1 pc = .ok (.ldc_w i, 3)) (hc : Cond.constant mi.1.cls i v ∈ TT) (k : J a mi d g (pc + 3) (L) (.int v :: st) (S)) : J a mi d g (pc) (L) (st) (S) := by
  intro p l e R s m args below meth c D H locs ls C hl hP hS
  exact lv_ldcw C.1 C.2.1 C.2.2.2.2.2.1 (C.2.2.2.2.2.2.1 _ hc) hd (k p l e R s m args below meth c D H locs ls C hl hP hS)
theorem j_ldc2_w {i : Nat} {v : Int64} (hd : decode mi.2.1 pc = .ok (.ldc2_w i, 3)) (hc : Cond.constantLong mi.1.cls i v ∈ TT) (k : J a mi d g (pc + 3) (L) (.long v :: st) (S)) : J a mi d g (pc) (L) (st) (S) := by
  intro p l e R s m args below meth c D H locs ls C hl hP hS
  exact lv_ldc2 C.1 C.2.1 C.2.2.2.2.2.1 (C.2.2.2.2.2.2.1 _ hc) hd (k p l e R s m args below meth c D H locs ls C hl hP hS)
theorem j_iadd {x y : Int32} (hd : decode mi.2.1 pc = .ok (.iadd, 1)) (k : J a mi d g (pc + 1) (L) (.int (x + y) :: st) (S)) : J a mi d g (pc) (L) (.int y :: .int x :: st) (S) := by
  intro p l e R s m args below meth c D H locs ls C hl hP hS
  exact lv_iadd C.1 C.2.1 hd (k p l e R s m args below meth c D H locs ls C hl hP hS)
theorem j_isub {x y : Int32} (hd : decode mi.2.1 pc = .ok (.isub, 1)) (k : J a mi d g (pc + 1) (L) (.int (x - y) :: st) (S)) : J a mi d g (pc) (L) (.int y :: .int x :: st) (S) := by
  intro p l e R s m args below meth c D H locs ls C hl hP hS
  exact lv_isub C.1 C.2.1 hd (k p l e R s m args below meth c D H locs ls C hl hP hS)
theorem j_imul {x y : Int32} (hd : decode mi.2.1 pc = .ok (.imul, 1)) (k : J a mi d g (pc + 1) (L) (.int (x * y) :: st) (S)) : J a mi d g (pc) (L) (.int y :: .int x :: st) (S) := by
  intro p l e R s m args below meth c D H locs ls C hl hP hS
  exact lv_imul C.1 C.2.1 hd (k p l e R s m args below meth c D H locs ls C hl hP hS)
theorem j_iand {x y : Int32} (hd : decode mi.2.1 pc = .ok (.iand, 1)) (k : J a mi d g (pc + 1) (L) (.int (x &&& y) :: st) (S)) : J a mi d g (pc) (L) (.int y :: .int x :: st) (S) := by
  intro p l e R s m args below meth c D H locs ls C hl hP hS
  exact lv_iand C.1 C.2.1 hd (k p l e R s m args below meth c D H locs ls C hl hP hS)
theorem j_ior {x y : Int32} (hd : decode mi.2.1 pc = .ok (.ior, 1)) (k : J a mi d g (pc + 1) (L) (.int (x ||| y) :: st) (S)) : J a mi d g (pc) (L) (.int y :: .int x :: st) (S) := by
  intro p l e R s m args below meth c D H locs ls C hl hP hS
  exact lv_ior C.1 C.2.1 hd (k p l e R s m args below meth c D H locs ls C hl hP hS)
theorem j_ixor {x y : Int32} (hd : decode mi.2.1 pc = .ok (.ixor, 1)) (k : J a mi d g (pc + 1) (L) (.int (x ^^^ y) :: st) (S)) : J a mi d g (pc) (L) (.int y :: .int x :: st) (S) := by
  intro p l e R s m args below meth c D H locs ls C hl hP hS
  exact lv_ixor C.1 C.2.1 hd (k p l e R s m args below meth c D H locs ls C hl hP hS)
theorem j_ladd {x y : Int64} (hd : decode mi.2.1 pc = .ok (.ladd, 1)) (k : J a mi d g (pc + 1) (L) (.long (x + y) :: st) (S)) : J a mi d g (pc) (L) (.long y :: .long x :: st) (S) := by
  intro p l e R s m args below meth c D H locs ls C hl hP hS
  exact lv_ladd C.1 C.2.1 hd (k p l e R s m args below meth c D H locs ls C hl hP hS)
theorem j_lsub {x y : Int64} (hd : decode mi.2.1 pc = .ok (.lsub, 1)) (k : J a mi d g (pc + 1) (L) (.long (x - y) :: st) (S)) : J a mi d g (pc) (L) (.long y :: .long x :: st) (S) := by
  intro p l e R s m args below meth c D H locs ls C hl hP hS
  exact lv_lsub C.1 C.2.1 hd (k p l e R s m args below meth c D H locs ls C hl hP hS)
theorem j_lmul {x y : Int64} (hd : decode mi.2.1 pc = .ok (.lmul, 1)) (k : J a mi d g (pc + 1) (L) (.long (x * y) :: st) (S)) : J a mi d g (pc) (L) (.long y :: .long x :: st) (S) := by
  intro p l e R s m args below meth c D H locs ls C hl hP hS
  exact lv_lmul C.1 C.2.1 hd (k p l e R s m args below meth c D H locs ls C hl hP hS)
theorem j_land {x y : Int64} (hd : decode mi.2.1 pc = .ok (.land, 1)) (k : J a mi d g (pc + 1) (L) (.long (x &&& y) :: st) (S)) : J a mi d g (pc) (L) (.long y :: .long x :: st) (S) := by
  intro p l e R s m args below meth c D H locs ls C hl hP hS
  exact lv_land C.1 C.2.1 hd (k p l e R s m args below meth c D H locs ls C hl hP hS)
theorem j_lor {x y : Int64} (hd : decode mi.2.1 pc = .ok (.lor, 1)) (k : J a mi d g (pc + 1) (L) (.long (x ||| y) :: st) (S)) : J a mi d g (pc) (L) (.long y :: .long x :: st) (S) := by
  intro p l e R s m args below meth c D H locs ls C hl hP hS
  exact lv_lor C.1 C.2.1 hd (k p l e R s m args below meth c D H locs ls C hl hP hS)
theorem j_idiv {x y : Int32} (hd : decode mi.2.1 pc = .ok (.idiv, 1)) (h : ¬ y = 0) (k : J a mi d g (pc + 1) (L) (.int (x / y) :: st) (S)) : J a mi d g (pc) (L) (.int y :: .int x :: st) (S) := by
  intro p l e R s m args below meth c D H locs ls C hl hP hS
  exact lv_idiv C.1 C.2.1 hd h (k p l e R s m args below meth c D H locs ls C hl hP hS)
theorem j_irem {x y : Int32} (hd : decode mi.2.1 pc = .ok (.irem, 1)) (h : ¬ y = 0) (k : J a mi d g (pc + 1) (L) (.int (x - x / y * y) :: st) (S)) : J a mi d g (pc) (L) (.int y :: .int x :: st) (S) := by
  intro p l e R s m args below meth c D H locs ls C hl hP hS
  exact lv_irem C.1 C.2.1 hd h (k p l e R s m args below meth c D H locs ls C hl hP hS)
theorem j_ldiv {x y : Int64} (hd : decode mi.2.1 pc = .ok (.ldiv, 1)) (h : ¬ y = 0) (k : J a mi d g (pc + 1) (L) (.long (x / y) :: st) (S)) : J a mi d g (pc) (L) (.long y :: .long x :: st) (S) := by
  intro p l e R s m args below meth c D H locs ls C hl hP hS
  exact lv_ldiv C.1 C.2.1 hd h (k p l e R s m args below meth c D H locs ls C hl hP hS)
theorem j_lrem {x y : Int64} (hd : decode mi.2.1 pc = .ok (.lrem, 1)) (h : ¬ y = 0) (k : J a mi d g (pc + 1) (L) (.long (x - x / y * y) :: st) (S)) : J a mi d g (pc) (L) (.long y :: .long x :: st) (S) := by
  intro p l e R s m args below meth c D H locs ls C hl hP hS
  exact lv_lrem C.1 C.2.1 hd h (k p l e R s m args below meth c D H locs ls C hl hP hS)
theorem j_ineg {x : Int32} (hd : decode mi.2.1 pc = .ok (.ineg, 1)) (k : J a mi d g (pc + 1) (L) (.int (-x) :: st) (S)) : J a mi d g (pc) (L) (.int x :: st) (S) := by
  intro p l e R s m args below meth c D H locs ls C hl hP hS
  exact lv_ineg C.1 C.2.1 hd (k p l e R s m args below meth c D H locs ls C hl hP hS)
theorem j_ishl {x y : Int32} (hd : decode mi.2.1 pc = .ok (.ishl, 1)) (k : J a mi d g (pc + 1) (L) (.int (x <<< (y &&& 31)) :: st) (S)) : J a mi d g (pc) (L) (.int y :: .int x :: st) (S) := by
  intro p l e R s m args below meth c D H locs ls C hl hP hS
  exact lv_ishl C.1 C.2.1 hd (k p l e R s m args below meth c D H locs ls C hl hP hS)
theorem j_ishr {x y : Int32} (hd : decode mi.2.1 pc = .ok (.ishr, 1)) (k : J a mi d g (pc + 1) (L) (.int (x >>> (y &&& 31)) :: st) (S)) : J a mi d g (pc) (L) (.int y :: .int x :: st) (S) := by
  intro p l e R s m args below meth c D H locs ls C hl hP hS
  exact lv_ishr C.1 C.2.1 hd (k p l e R s m args below meth c D H locs ls C hl hP hS)
theorem j_iushr {x y : Int32} (hd : decode mi.2.1 pc = .ok (.iushr, 1)) (k : J a mi d g (pc + 1) (L) (.int ((x.toUInt32 >>> (y.toUInt32 &&& Int32.toUInt32 31)).toInt32) :: st) (S)) : J a mi d g (pc) (L) (.int y :: .int x :: st) (S) := by
  intro p l e R s m args below meth c D H locs ls C hl hP hS
  exact lv_iushr C.1 C.2.1 hd rfl (k p l e R s m args below meth c D H locs ls C hl hP hS)
theorem j_lshl {x : Int64} {y : Int32} (hd : decode mi.2.1 pc = .ok (.lshl, 1)) (k : J a mi d g (pc + 1) (L) (.long (x <<< (y.toInt64 &&& 63)) :: st) (S)) : J a mi d g (pc) (L) (.int y :: .long x :: st) (S) := by
  intro p l e R s m args below meth c D H locs ls C hl hP hS
  exact lv_lshl C.1 C.2.1 hd rfl (k p l e R s m args below meth c D H locs ls C hl hP hS)
theorem j_i2l {x : Int32} (hd : decode mi.2.1 pc = .ok (.i2l, 1)) (k : J a mi d g (pc + 1) (L) (.long x.toInt64 :: st) (S)) : J a mi d g (pc) (L) (.int x :: st) (S) := by
  intro p l e R s m args below meth c D H locs ls C hl hP hS
  exact lv_i2l C.1 C.2.1 hd rfl (k p l e R s m args below meth c D H locs ls C hl hP hS)
theorem j_l2i {x : Int64} (hd : decode mi.2.1 pc = .ok (.l2i, 1)) (k : J a mi d g (pc + 1) (L) (.int x.toInt32 :: st) (S)) : J a mi d g (pc) (L) (.long x :: st) (S) := by
  intro p l e R s m args below meth c D H locs ls C hl hP hS
  exact lv_l2i C.1 C.2.1 hd rfl (k p l e R s m args below meth c D H locs ls C hl hP hS)
theorem j_i2b {x : Int32} (hd : decode mi.2.1 pc = .ok (.i2b, 1)) (k : J a mi d g (pc + 1) (L) (.int x.toInt8.toInt32 :: st) (S)) : J a mi d g (pc) (L) (.int x :: st) (S) := by
  intro p l e R s m args below meth c D H locs ls C hl hP hS
  exact lv_i2b C.1 C.2.1 hd rfl (k p l e R s m args below meth c D H locs ls C hl hP hS)
theorem j_i2s {x : Int32} (hd : decode mi.2.1 pc = .ok (.i2s, 1)) (k : J a mi d g (pc + 1) (L) (.int x.toInt16.toInt32 :: st) (S)) : J a mi d g (pc) (L) (.int x :: st) (S) := by
  intro p l e R s m args below meth c D H locs ls C hl hP hS
  exact lv_i2s C.1 C.2.1 hd rfl (k p l e R s m args below meth c D H locs ls C hl hP hS)
theorem j_lcmp {x y : Int64} (hd : decode mi.2.1 pc = .ok (.lcmp, 1)) (k : J a mi d g (pc + 1) (L) (.int (lg_cmp x y) :: st) (S)) : J a mi d g (pc) (L) (.long y :: .long x :: st) (S) := by
  intro p l e R s m args below meth c D H locs ls C hl hP hS
  exact W.lcmp C.1 C.2.1 hd (k p l e R s m args below meth c D H locs ls C hl hP hS)
theorem j_dup {v : Value} (hd : decode mi.2.1 pc = .ok (.dup, 1)) (h : v.category = 1 := by rfl) (k : J a mi d g (pc + 1) (L) (v :: v :: st) (S)) : J a mi d g (pc) (L) (v :: st) (S) := by
  intro p l e R s m args below meth c D H locs ls C hl hP hS
  exact lv_dup C.1 C.2.1 hd h (k p l e R s m args below meth c D H locs ls C hl hP hS)
theorem j_pop {v : Value} (hd : decode mi.2.1 pc = .ok (.pop, 1)) (h : v.category = 1 := by rfl) (k : J a mi d g (pc + 1) (L) (st) (S)) : J a mi d g (pc) (L) (v :: st) (S) := by
  intro p l e R s m args below meth c D H locs ls C hl hP hS
  exact lv_pop C.1 C.2.1 hd h (k p l e R s m args below meth c D H locs ls C hl hP hS)
theorem j_dup2 {v w : Value} (hd : decode mi.2.1 pc = .ok (.dup2, 1)) (h1 : v.category = 1 := by rfl) (h2 : w.category = 1 := by rfl) (k : J a mi d g (pc + 1) (L) (v :: w :: v :: w :: st) (S)) : J a mi d g (pc) (L) (v :: w :: st) (S) := by
  intro p l e R s m args below meth c D H locs ls C hl hP hS
  exact lv_dup2_11 C.1 C.2.1 hd h1 h2 (k p l e R s m args below meth c D H locs ls C hl hP hS)
theorem j_ifeq {x : Int32} {off : Int} (tgt : Nat) (hd : decode mi.2.1 pc = .ok (.ifCond .eq off, 3)) (ht : (pc : Int) + off = (tgt : Int)) (kt : x = 0 → J a mi d g (tgt) (L) (st) (S)) (kf : ¬ (x = 0) → J a mi d g (pc + 3) (L) (st) (S)) : J a mi d g (pc) (L) (.int x :: st) (S) := by
  intro p l e R s m args below meth c D H locs ls C hl hP hS
  exact lv_if_eq C.1 C.2.1 hd ht (fun h => kt (by first | exact h | exact Int32.not_lt.mp h | exact Int32.not_le.mp h | simpa using h) p l e R s m args below meth c D H locs ls C hl hP hS) (fun h => kf (by first | exact h | (intro q; first | exact h q | exact absurd q (by first | exact Int32.not_le.mpr h | exact Int32.not_lt.mpr h | simpa using h))) p l e R s m args below meth c D H locs ls C hl hP hS)
theorem j_ifne {x : Int32} {off : Int} (tgt : Nat) (hd : decode mi.2.1 pc = .ok (.ifCond .ne off, 3)) (ht : (pc : Int) + off = (tgt : Int)) (kt : ¬ x = 0 → J a mi d g (tgt) (L) (st) (S)) (kf : ¬ (¬ x = 0) → J a mi d g (pc + 3) (L) (st) (S)) : J a mi d g (pc) (L) (.int x :: st) (S) := by
  intro p l e R s m args below meth c D H locs ls C hl hP hS
  exact lv_if_ne C.1 C.2.1 hd ht (fun h => kt (by first | exact h | exact Int32.not_lt.mp h | exact Int32.not_le.mp h | simpa using h) p l e R s m args below meth c D H locs ls C hl hP hS) (fun h => kf (by first | exact h | (intro q; first | exact h q | exact absurd q (by first | exact Int32.not_le.mpr h | exact Int32.not_lt.mpr h | simpa using h))) p l e R s m args below meth c D H locs ls C hl hP hS)
theorem j_iflt {x : Int32} {off : Int} (tgt : Nat) (hd : decode mi.2.1 pc = .ok (.ifCond .lt off, 3)) (ht : (pc : Int) + off = (tgt : Int)) (kt : x < 0 → J a mi d g (tgt) (L) (st) (S)) (kf : ¬ (x < 0) → J a mi d g (pc + 3) (L) (st) (S)) : J a mi d g (pc) (L) (.int x :: st) (S) := by
  intro p l e R s m args below meth c D H locs ls C hl hP hS
  exact lv_if_lt C.1 C.2.1 hd ht (fun h => kt (by first | exact h | exact Int32.not_lt.mp h | exact Int32.not_le.mp h | simpa using h) p l e R s m args below meth c D H locs ls C hl hP hS) (fun h => kf (by first | exact h | (intro q; first | exact h q | exact absurd q (by first | exact Int32.not_le.mpr h | exact Int32.not_lt.mpr h | simpa using h))) p l e R s m args below meth c D H locs ls C hl hP hS)
theorem j_ifge {x : Int32} {off : Int} (tgt : Nat) (hd : decode mi.2.1 pc = .ok (.ifCond .ge off, 3)) (ht : (pc : Int) + off = (tgt : Int)) (kt : 0 ≤ x → J a mi d g (tgt) (L) (st) (S)) (kf : ¬ (0 ≤ x) → J a mi d g (pc + 3) (L) (st) (S)) : J a mi d g (pc) (L) (.int x :: st) (S) := by
  intro p l e R s m args below meth c D H locs ls C hl hP hS
  exact lv_if_ge C.1 C.2.1 hd ht (fun h => kt (by first | exact h | exact Int32.not_lt.mp h | exact Int32.not_le.mp h | simpa using h) p l e R s m args below meth c D H locs ls C hl hP hS) (fun h => kf (by first | exact h | (intro q; first | exact h q | exact absurd q (by first | exact Int32.not_le.mpr h | exact Int32.not_lt.mpr h | simpa using h))) p l e R s m args below meth c D H locs ls C hl hP hS)
theorem j_ifgt {x : Int32} {off : Int} (tgt : Nat) (hd : decode mi.2.1 pc = .ok (.ifCond .gt off, 3)) (ht : (pc : Int) + off = (tgt : Int)) (kt : 0 < x → J a mi d g (tgt) (L) (st) (S)) (kf : ¬ (0 < x) → J a mi d g (pc + 3) (L) (st) (S)) : J a mi d g (pc) (L) (.int x :: st) (S) := by
  intro p l e R s m args below meth c D H locs ls C hl hP hS
  exact lv_if_gt C.1 C.2.1 hd ht (fun h => kt (by first | exact h | exact Int32.not_lt.mp h | exact Int32.not_le.mp h | simpa using h) p l e R s m args below meth c D H locs ls C hl hP hS) (fun h => kf (by first | exact h | (intro q; first | exact h q | exact absurd q (by first | exact Int32.not_le.mpr h | exact Int32.not_lt.mpr h | simpa using h))) p l e R s m args below meth c D H locs ls C hl hP hS)
theorem j_ifle {x : Int32} {off : Int} (tgt : Nat) (hd : decode mi.2.1 pc = .ok (.ifCond .le off, 3)) (ht : (pc : Int) + off = (tgt : Int)) (kt : x ≤ 0 → J a mi d g (tgt) (L) (st) (S)) (kf : ¬ (x ≤ 0) → J a mi d g (pc + 3) (L) (st) (S)) : J a mi d g (pc) (L) (.int x :: st) (S) := by
  intro p l e R s m args below meth c D H locs ls C hl hP hS
  exact lv_if_le C.1 C.2.1 hd ht (fun h => kt (by first | exact h | exact Int32.not_lt.mp h | exact Int32.not_le.mp h | simpa using h) p l e R s m args below meth c D H locs ls C hl hP hS) (fun h => kf (by first | exact h | (intro q; first | exact h q | exact absurd q (by first | exact Int32.not_le.mpr h | exact Int32.not_lt.mpr h | simpa using h))) p l e R s m args below meth c D H locs ls C hl hP hS)
theorem j_icmpeq {x y : Int32} {off : Int} (tgt : Nat) (hd : decode mi.2.1 pc = .ok (.if_icmp .eq off, 3)) (ht : (pc : Int) + off = (tgt : Int)) (kt : x = y → J a mi d g (tgt) (L) (st) (S)) (kf : ¬ (x = y) → J a mi d g (pc + 3) (L) (st) (S)) : J a mi d g (pc) (L) (.int y :: .int x :: st) (S) := by
  intro p l e R s m args below meth c D H locs ls C hl hP hS
  exact lv_icmp_eq C.1 C.2.1 hd ht (fun h => kt (by first | exact h | exact Int32.not_lt.mp h | exact Int32.not_le.mp h | simpa using h) p l e R s m args below meth c D H locs ls C hl hP hS) (fun h => kf (by first | exact h | (intro q; first | exact h q | exact absurd q (by first | exact Int32.not_le.mpr h | exact Int32.not_lt.mpr h | simpa using h))) p l e R s m args below meth c D H locs ls C hl hP hS)
theorem j_icmpne {x y : Int32} {off : Int} (tgt : Nat) (hd : decode mi.2.1 pc = .ok (.if_icmp .ne off, 3)) (ht : (pc : Int) + off = (tgt : Int)) (kt : ¬ x = y → J a mi d g (tgt) (L) (st) (S)) (kf : ¬ (¬ x = y) → J a mi d g (pc + 3) (L) (st) (S)) : J a mi d g (pc) (L) (.int y :: .int x :: st) (S) := by
  intro p l e R s m args below meth c D H locs ls C hl hP hS
  exact lv_icmp_ne C.1 C.2.1 hd ht (fun h => kt (by first | exact h | exact Int32.not_lt.mp h | exact Int32.not_le.mp h | simpa using h) p l e R s m args below meth c D H locs ls C hl hP hS) (fun h => kf (by first | exact h | (intro q; first | exact h q | exact absurd q (by first | exact Int32.not_le.mpr h | exact Int32.not_lt.mpr h | simpa using h))) p l e R s m args below meth c D H locs ls C hl hP hS)
theorem j_icmplt {x y : Int32} {off : Int} (tgt : Nat) (hd : decode mi.2.1 pc = .ok (.if_icmp .lt off, 3)) (ht : (pc : Int) + off = (tgt : Int)) (kt : x < y → J a mi d g (tgt) (L) (st) (S)) (kf : ¬ (x < y) → J a mi d g (pc + 3) (L) (st) (S)) : J a mi d g (pc) (L) (.int y :: .int x :: st) (S) := by
  intro p l e R s m args below meth c D H locs ls C hl hP hS
  exact lv_icmp_lt C.1 C.2.1 hd ht (fun h => kt (by first | exact h | exact Int32.not_lt.mp h | exact Int32.not_le.mp h | simpa using h) p l e R s m args below meth c D H locs ls C hl hP hS) (fun h => kf (by first | exact h | (intro q; first | exact h q | exact absurd q (by first | exact Int32.not_le.mpr h | exact Int32.not_lt.mpr h | simpa using h))) p l e R s m args below meth c D H locs ls C hl hP hS)
theorem j_icmpge {x y : Int32} {off : Int} (tgt : Nat) (hd : decode mi.2.1 pc = .ok (.if_icmp .ge off, 3)) (ht : (pc : Int) + off = (tgt : Int)) (kt : y ≤ x → J a mi d g (tgt) (L) (st) (S)) (kf : ¬ (y ≤ x) → J a mi d g (pc + 3) (L) (st) (S)) : J a mi d g (pc) (L) (.int y :: .int x :: st) (S) := by
  intro p l e R s m args below meth c D H locs ls C hl hP hS
  exact lv_icmp_ge C.1 C.2.1 hd ht (fun h => kt (by first | exact h | exact Int32.not_lt.mp h | exact Int32.not_le.mp h | simpa using h) p l e R s m args below meth c D H locs ls C hl hP hS) (fun h => kf (by first | exact h | (intro q; first | exact h q | exact absurd q (by first | exact Int32.not_le.mpr h | exact Int32.not_lt.mpr h | simpa using h))) p l e R s m args below meth c D H locs ls C hl hP hS)
theorem j_icmpgt {x y : Int32} {off : Int} (tgt : Nat) (hd : decode mi.2.1 pc = .ok (.if_icmp .gt off, 3)) (ht : (pc : Int) + off = (tgt : Int)) (kt : y < x → J a mi d g (tgt) (L) (st) (S)) (kf : ¬ (y < x) → J a mi d g (pc + 3) (L) (st) (S)) : J a mi d g (pc) (L) (.int y :: .int x :: st) (S) := by
  intro p l e R s m args below meth c D H locs ls C hl hP hS
  exact lv_icmp_gt C.1 C.2.1 hd ht (fun h => kt (by first | exact h | exact Int32.not_lt.mp h | exact Int32.not_le.mp h | simpa using h) p l e R s m args below meth c D H locs ls C hl hP hS) (fun h => kf (by first | exact h | (intro q; first | exact h q | exact absurd q (by first | exact Int32.not_le.mpr h | exact Int32.not_lt.mpr h | simpa using h))) p l e R s m args below meth c D H locs ls C hl hP hS)
theorem j_icmple {x y : Int32} {off : Int} (tgt : Nat) (hd : decode mi.2.1 pc = .ok (.if_icmp .le off, 3)) (ht : (pc : Int) + off = (tgt : Int)) (kt : x ≤ y → J a mi d g (tgt) (L) (st) (S)) (kf : ¬ (x ≤ y) → J a mi d g (pc + 3) (L) (st) (S)) : J a mi d g (pc) (L) (.int y :: .int x :: st) (S) := by
  intro p l e R s m args below meth c D H locs ls C hl hP hS
  exact lv_icmp_le C.1 C.2.1 hd ht (fun h => kt (by first | exact h | exact Int32.not_lt.mp h | exact Int32.not_le.mp h | simpa using h) p l e R s m args below meth c D H locs ls C hl hP hS) (fun h => kf (by first | exact h | (intro q; first | exact h q | exact absurd q (by first | exact Int32.not_le.mpr h | exact Int32.not_lt.mpr h | simpa using h))) p l e R s m args below meth c D H locs ls C hl hP hS)
theorem j_goto {off : Int} (tgt : Nat) (hd : decode mi.2.1 pc = .ok (.goto off, 3)) (ht : (pc : Int) + off = (tgt : Int)) (k : J a mi d g (tgt) (L) (st) (S)) : J a mi d g (pc) (L) (st) (S) := by
  intro p l e R s m args below meth c D H locs ls C hl hP hS
  exact lv_goto C.1 C.2.1 hd ht (k p l e R s m args below meth c D H locs ls C hl hP hS)
theorem j_tblIn {dflt lo hi : Int} {offs : Array Int} {len : Nat} {x : Int32} (off : Int) (tgt : Nat) (hd : decode mi.2.1 pc = .ok (.tableswitch dflt lo hi offs, len)) (h1 : ¬ x.toInt < lo) (h2 : ¬ hi < x.toInt) (ho : offs[(x.toInt - lo).toNat]? = some off) (ht : (pc : Int) + off = (tgt : Int)) (k : J a mi d g (tgt) (L) (st) (S)) : J a mi d g (pc) (L) (.int x :: st) (S) := by
  intro p l e R s m args below meth c D H locs ls C hl hP hS
  exact lv_tableIn C.1 C.2.1 hd h1 h2 ho ht (k p l e R s m args below meth c D H locs ls C hl hP hS)
theorem j_tblOut {dflt lo hi : Int} {offs : Array Int} {len : Nat} {x : Int32} (tgt : Nat) (hd : decode mi.2.1 pc = .ok (.tableswitch dflt lo hi offs, len)) (h : x.toInt < lo ∨ hi < x.toInt) (ht : (pc : Int) + dflt = (tgt : Int)) (k : J a mi d g (tgt) (L) (st) (S)) : J a mi d g (pc) (L) (.int x :: st) (S) := by
  intro p l e R s m args below meth c D H locs ls C hl hP hS
  exact lv_tableOut C.1 C.2.1 hd h ht (k p l e R s m args below meth c D H locs ls C hl hP hS)
theorem j_lookup {dflt : Int} {ps : Array (Int × Int)} {len : Nat} {x : Int32} (off : Int) (tgt : Nat) (hd : decode mi.2.1 pc = .ok (.lookupswitch dflt ps, len)) (hp : (ps.toList.zip (ps.toList.drop 1)).all (fun (a, next) => a.1 < next.1) = true) (ho : Op.lookupswitch.offset ps.toList dflt x.toInt = off) (ht : (pc : Int) + off = (tgt : Int)) (k : J a mi d g (tgt) (L) (st) (S)) : J a mi d g (pc) (L) (.int x :: st) (S) := by
  intro p l e R s m args below meth c D H locs ls C hl hP hS
  exact lv_lookup C.1 C.2.1 hd hp ho ht (k p l e R s m args below meth c D H locs ls C hl hP hS)
end Rows
section Rows
variable {a : Nat → Nat} {mi : MI} {d : Nat} {g : GG} {pc : Nat} {L st : List Value} {S : St}
theorem j_ild0 {x : Int32} (hd : decode mi.2.1 pc = .ok (.iload_n 0, 1)) (k : J a mi d g (pc + 1) (.int x :: L) (.int x :: st) (S)) : J a mi d g (pc) (.int x :: L) (st) (S) := by
  intro p l e R s m args below meth c D H locs ls C hl hP hS
  exact lv_iload_n C.1 C.2.1 hd rfl (lx_at hl (i := 0) (v := .int x) (by simp) rfl) (k p l e R s m args below meth c D H locs ls C hl hP hS)
theorem j_ist0 {w : Value} {x : Int32} (hd : decode mi.2.1 pc = .ok (.istore_n 0, 1)) (k : J a mi d g (pc + 1) (.int x :: L) (st) (S)) (hn : 0 < mi.2.2.1 := by decide) : J a mi d g (pc) (w :: L) (.int x :: st) (S) := by
  intro p l e R s m args below meth c D H locs ls C hl hP hS
  exact lv_istore_n (i := 0) C.1 C.2.1 hd rfl hl hn rfl (fun ls' hl' => k p l e R s m args below meth c D H locs ls' C (lx_of1 (L := w :: L) (i := 0) (x := .int x) (fun w q _ => by omega) hl') hP hS)
theorem j_iinc0 {x : Int32} {n : Int} (y : Int32) (hd : decode mi.2.1 pc = .ok (.iinc 0 n, 3)) (hy : x + Int32.ofInt n = y) (k : J a mi d g (pc + 3) (.int y :: L) (st) (S)) (hn : 0 < mi.2.2.1 := by decide) : J a mi d g (pc) (.int x :: L) (st) (S) := by
  intro p l e R s m args below meth c D H locs ls C hl hP hS
  obtain ⟨q, hq⟩ := lx_ix hl (i := 0) (v := .int x) (by simp) rfl
  exact lv_iinc C.1 C.2.1 hd hl hq hy hn rfl (fun ls' hl' => k p l e R s m args below meth c D H locs ls' C (lx_of1 (L := .int x :: L) (i := 0) (x := .int y) (fun w q _ => by omega) hl') hP hS)
theorem j_lld0 {x : Int64} (hd : decode mi.2.1 pc = .ok (.lload_n 0, 1)) (k : J a mi d g (pc + 1) (.long x :: L) (.long x :: st) (S)) : J a mi d g (pc) (.long x :: L) (st) (S) := by
  intro p l e R s m args below meth c D H locs ls C hl hP hS
  exact lv_lload_n C.1 C.2.1 hd rfl (lx_at hl (i := 0) (v := .long x) (by simp) rfl) (k p l e R s m args below meth c D H locs ls C hl hP hS)
theorem j_lst0 {w z : Value} {x : Int64} (hd : decode mi.2.1 pc = .ok (.lstore_n 0, 1)) (k : J a mi d g (pc + 1) (.long x :: .null :: L) (st) (S)) (hn : 0 + 1 < mi.2.2.1 := by decide) : J a mi d g (pc) (w :: z :: L) (.long x :: st) (S) := by
  intro p l e R s m args below meth c D H locs ls C hl hP hS
  exact lv_lstore_n (i := 0) C.1 C.2.1 hd rfl hl hn rfl (fun ls' hl' => k p l e R s m args below meth c D H locs ls' C (lx_of2 (L := w :: z :: L) (i := 0) (x := .long x) (fun w q _ => by omega) hl') hP hS)
theorem j_ald0 {x : Nat} (hd : decode mi.2.1 pc = .ok (.aload_n 0, 1)) (k : J a mi d g (pc + 1) (.ref x :: L) (.ref x :: st) (S)) : J a mi d g (pc) (.ref x :: L) (st) (S) := by
  intro p l e R s m args below meth c D H locs ls C hl hP hS
  exact lv_aload_n C.1 C.2.1 hd rfl (lx_at hl (i := 0) (v := .ref x) (by simp) rfl) (k p l e R s m args below meth c D H locs ls C hl hP hS)
theorem j_ast0 {w : Value} {x : Nat} (hd : decode mi.2.1 pc = .ok (.astore_n 0, 1)) (k : J a mi d g (pc + 1) (.ref x :: L) (st) (S)) (hn : 0 < mi.2.2.1 := by decide) : J a mi d g (pc) (w :: L) (.ref x :: st) (S) := by
  intro p l e R s m args below meth c D H locs ls C hl hP hS
  exact lv_astore_n (i := 0) C.1 C.2.1 hd rfl hl hn rfl (fun ls' hl' => k p l e R s m args below meth c D H locs ls' C (lx_of1 (L := w :: L) (i := 0) (x := .ref x) (fun w q _ => by omega) hl') hP hS)
theorem j_ild1 {v0 : Value} {x : Int32} (hd : decode mi.2.1 pc = .ok (.iload_n 1, 1)) (k : J a mi d g (pc + 1) (v0 :: .int x :: L) (.int x :: st) (S)) : J a mi d g (pc) (v0 :: .int x :: L) (st) (S) := by
  intro p l e R s m args below meth c D H locs ls C hl hP hS
  exact lv_iload_n C.1 C.2.1 hd rfl (lx_at hl (i := 1) (v := .int x) (by simp) rfl) (k p l e R s m args below meth c D H locs ls C hl hP hS)
theorem j_ist1 {v0 : Value} {w : Value} {x : Int32} (hd : decode mi.2.1 pc = .ok (.istore_n 1, 1)) (hc : v0.category = 1 := by rfl) (k : J a mi d g (pc + 1) (v0 :: .int x :: L) (st) (S)) (hn : 1 < mi.2.2.1 := by decide) : J a mi d g (pc) (v0 :: w :: L) (.int x :: st) (S) := by
  intro p l e R s m args below meth c D H locs ls C hl hP hS
  exact lv_istore_n (i := 1) C.1 C.2.1 hd rfl hl hn rfl (fun ls' hl' => k p l e R s m args below meth c D H locs ls' C (lx_of1 (L := v0 :: w :: L) (i := 1) (x := .int x) (fun w _ q => by cases q; exact hc) hl') hP hS)
theorem j_iinc1 {v0 : Value} {x : Int32} {n : Int} (y : Int32) (hd : decode mi.2.1 pc = .ok (.iinc 1 n, 3)) (hy : x + Int32.ofInt n = y) (hc : v0.category = 1 := by rfl) (k : J a mi d g (pc + 3) (v0 :: .int y :: L) (st) (S)) (hn : 1 < mi.2.2.1 := by decide) : J a mi d g (pc) (v0 :: .int x :: L) (st) (S) := by
  intro p l e R s m args below meth c D H locs ls C hl hP hS
  obtain ⟨q, hq⟩ := lx_ix hl (i := 1) (v := .int x) (by simp) rfl
  exact lv_iinc C.1 C.2.1 hd hl hq hy hn rfl (fun ls' hl' => k p l e R s m args below meth c D H locs ls' C (lx_of1 (L := v0 :: .int x :: L) (i := 1) (x := .int y) (fun w _ q => by cases q; exact hc) hl') hP hS)
theorem j_lld1 {v0 : Value} {x : Int64} (hd : decode mi.2.1 pc = .ok (.lload_n 1, 1)) (k : J a mi d g (pc + 1) (v0 :: .long x :: L) (.long x :: st) (S)) : J a mi d g (pc) (v0 :: .long x :: L) (st) (S) := by
  intro p l e R s m args below meth c D H locs ls C hl hP hS
  exact lv_lload_n C.1 C.2.1 hd rfl (lx_at hl (i := 1) (v := .long x) (by simp) rfl) (k p l e R s m args below meth c D H locs ls C hl hP hS)
theorem j_lst1 {v0 : Value} {w z : Value} {x : Int64} (hd : decode mi.2.1 pc = .ok (.lstore_n 1, 1)) (hc : v0.category = 1 := by rfl) (k : J a mi d g (pc + 1) (v0 :: .long x :: .null :: L) (st) (S)) (hn : 1 + 1 < mi.2.2.1 := by decide) : J a mi d g (pc) (v0 :: w :: z :: L) (.long x :: st) (S) := by
  intro p l e R s m args below meth c D H locs ls C hl hP hS
  exact lv_lstore_n (i := 1) C.1 C.2.1 hd rfl hl hn rfl (fun ls' hl' => k p l e R s m args below meth c D H locs ls' C (lx_of2 (L := v0 :: w :: z :: L) (i := 1) (x := .long x) (fun w _ q => by cases q; exact hc) hl') hP hS)
theorem j_ald1 {v0 : Value} {x : Nat} (hd : decode mi.2.1 pc = .ok (.aload_n 1, 1)) (k : J a mi d g (pc + 1) (v0 :: .ref x :: L) (.ref x :: st) (S)) : J a mi d g (pc) (v0 :: .ref x :: L) (st) (S) := by
  intro p l e R s m args below meth c D H locs ls C hl hP hS
  exact lv_aload_n C.1 C.2.1 hd rfl (lx_at hl (i := 1) (v := .ref x) (by simp) rfl) (k p l e R s m args below meth c D H locs ls C hl hP hS)
theorem j_ast1 {v0 : Value} {w : Value} {x : Nat} (hd : decode mi.2.1 pc = .ok (.astore_n 1, 1)) (hc : v0.category = 1 := by rfl) (k : J a mi d g (pc + 1) (v0 :: .ref x :: L) (st) (S)) (hn : 1 < mi.2.2.1 := by decide) : J a mi d g (pc) (v0 :: w :: L) (.ref x :: st) (S) := by
  intro p l e R s m args below meth c D H locs ls C hl hP hS
  exact lv_astore_n (i := 1) C.1 C.2.1 hd rfl hl hn rfl (fun ls' hl' => k p l e R s m args below meth c D H locs ls' C (lx_of1 (L := v0 :: w :: L) (i := 1) (x := .ref x) (fun w _ q => by cases q; exact hc) hl') hP hS)
theorem j_ild2 {v0 v1 : Value} {x : Int32} (hd : decode mi.2.1 pc = .ok (.iload_n 2, 1)) (k : J a mi d g (pc + 1) (v0 :: v1 :: .int x :: L) (.int x :: st) (S)) : J a mi d g (pc) (v0 :: v1 :: .int x :: L) (st) (S) := by
  intro p l e R s m args below meth c D H locs ls C hl hP hS
  exact lv_iload_n C.1 C.2.1 hd rfl (lx_at hl (i := 2) (v := .int x) (by simp) rfl) (k p l e R s m args below meth c D H locs ls C hl hP hS)
theorem j_ist2 {v0 v1 : Value} {w : Value} {x : Int32} (hd : decode mi.2.1 pc = .ok (.istore_n 2, 1)) (hc : v1.category = 1 := by rfl) (k : J a mi d g (pc + 1) (v0 :: v1 :: .int x :: L) (st) (S)) (hn : 2 < mi.2.2.1 := by decide) : J a mi d g (pc) (v0 :: v1 :: w :: L) (.int x :: st) (S) := by
  intro p l e R s m args below meth c D H locs ls C hl hP hS
  exact lv_istore_n (i := 2) C.1 C.2.1 hd rfl hl hn rfl (fun ls' hl' => k p l e R s m args below meth c D H locs ls' C (lx_of1 (L := v0 :: v1 :: w :: L) (i := 2) (x := .int x) (fun w _ q => by cases q; exact hc) hl') hP hS)
theorem j_iinc2 {v0 v1 : Value} {x : Int32} {n : Int} (y : Int32) (hd : decode mi.2.1 pc = .ok (.iinc 2 n, 3)) (hy : x + Int32.ofInt n = y) (hc : v1.category = 1 := by rfl) (k : J a mi d g (pc + 3) (v0 :: v1 :: .int y :: L) (st) (S)) (hn : 2 < mi.2.2.1 := by decide) : J a mi d g (pc) (v0 :: v1 :: .int x :: L) (st) (S) := by
  intro p l e R s m args below meth c D H locs ls C hl hP hS
  obtain ⟨q, hq⟩ := lx_ix hl (i := 2) (v := .int x) (by simp) rfl
  exact lv_iinc C.1 C.2.1 hd hl hq hy hn rfl (fun ls' hl' => k p l e R s m args below meth c D H locs ls' C (lx_of1 (L := v0 :: v1 :: .int x :: L) (i := 2) (x := .int y) (fun w _ q => by cases q; exact hc) hl') hP hS)
theorem j_lld2 {v0 v1 : Value} {x : Int64} (hd : decode mi.2.1 pc = .ok (.lload_n 2, 1)) (k : J a mi d g (pc + 1) (v0 :: v1 :: .long x :: L) (.long x :: st) (S)) : J a mi d g (pc) (v0 :: v1 :: .long x :: L) (st) (S) := by
  intro p l e R s m args below meth c D H locs ls C hl hP hS
  exact lv_lload_n C.1 C.2.1 hd rfl (lx_at hl (i := 2) (v := .long x) (by simp) rfl) (k p l e R s m args below meth c D H locs ls C hl hP hS)
theorem j_lst2 {v0 v1 : Value} {w z : Value} {x : Int64} (hd : decode mi.2.1 pc = .ok (.lstore_n 2, 1)) (hc : v1.category = 1 := by rfl) (k : J a mi d g (pc + 1) (v0 :: v1 :: .long x :: .null :: L) (st) (S)) (hn : 2 + 1 < mi.2.2.1 := by decide) : J a mi d g (pc) (v0 :: v1 :: w :: z :: L) (.long x :: st) (S) := by
  intro p l e R s m args below meth c D H locs ls C hl hP hS
  exact lv_lstore_n (i := 2) C.1 C.2.1 hd rfl hl hn rfl (fun ls' hl' => k p l e R s m args below meth c D H locs ls' C (lx_of2 (L := v0 :: v1 :: w :: z :: L) (i := 2) (x := .long x) (fun w _ q => by cases q; exact hc) hl') hP hS)
theorem j_ald2 {v0 v1 : Value} {x : Nat} (hd : decode mi.2.1 pc = .ok (.aload_n 2, 1)) (k : J a mi d g (pc + 1) (v0 :: v1 :: .ref x :: L) (.ref x :: st) (S)) : J a mi d g (pc) (v0 :: v1 :: .ref x :: L) (st) (S) := by
  intro p l e R s m args below meth c D H locs ls C hl hP hS
  exact lv_aload_n C.1 C.2.1 hd rfl (lx_at hl (i := 2) (v := .ref x) (by simp) rfl) (k p l e R s m args below meth c D H locs ls C hl hP hS)
theorem j_ast2 {v0 v1 : Value} {w : Value} {x : Nat} (hd : decode mi.2.1 pc = .ok (.astore_n 2, 1)) (hc : v1.category = 1 := by rfl) (k : J a mi d g (pc + 1) (v0 :: v1 :: .ref x :: L) (st) (S)) (hn : 2 < mi.2.2.1 := by decide) : J a mi d g (pc) (v0 :: v1 :: w :: L) (.ref x :: st) (S) := by
  intro p l e R s m args below meth c D H locs ls C hl hP hS
  exact lv_astore_n (i := 2) C.1 C.2.1 hd rfl hl hn rfl (fun ls' hl' => k p l e R s m args below meth c D H locs ls' C (lx_of1 (L := v0 :: v1 :: w :: L) (i := 2) (x := .ref x) (fun w _ q => by cases q; exact hc) hl') hP hS)
theorem j_ild3 {v0 v1 v2 : Value} {x : Int32} (hd : decode mi.2.1 pc = .ok (.iload_n 3, 1)) (k : J a mi d g (pc + 1) (v0 :: v1 :: v2 :: .int x :: L) (.int x :: st) (S)) : J a mi d g (pc) (v0 :: v1 :: v2 :: .int x :: L) (st) (S) := by
  intro p l e R s m args below meth c D H locs ls C hl hP hS
  exact lv_iload_n C.1 C.2.1 hd rfl (lx_at hl (i := 3) (v := .int x) (by simp) rfl) (k p l e R s m args below meth c D H locs ls C hl hP hS)
theorem j_ist3 {v0 v1 v2 : Value} {w : Value} {x : Int32} (hd : decode mi.2.1 pc = .ok (.istore_n 3, 1)) (hc : v2.category = 1 := by rfl) (k : J a mi d g (pc + 1) (v0 :: v1 :: v2 :: .int x :: L) (st) (S)) (hn : 3 < mi.2.2.1 := by decide) : J a mi d g (pc) (v0 :: v1 :: v2 :: w :: L) (.int x :: st) (S) := by
  intro p l e R s m args below meth c D H locs ls C hl hP hS
  exact lv_istore_n (i := 3) C.1 C.2.1 hd rfl hl hn rfl (fun ls' hl' => k p l e R s m args below meth c D H locs ls' C (lx_of1 (L := v0 :: v1 :: v2 :: w :: L) (i := 3) (x := .int x) (fun w _ q => by cases q; exact hc) hl') hP hS)
theorem j_iinc3 {v0 v1 v2 : Value} {x : Int32} {n : Int} (y : Int32) (hd : decode mi.2.1 pc = .ok (.iinc 3 n, 3)) (hy : x + Int32.ofInt n = y) (hc : v2.category = 1 := by rfl) (k : J a mi d g (pc + 3) (v0 :: v1 :: v2 :: .int y :: L) (st) (S)) (hn : 3 < mi.2.2.1 := by decide) : J a mi d g (pc) (v0 :: v1 :: v2 :: .int x :: L) (st) (S) := by
  intro p l e R s m args below meth c D H locs ls C hl hP hS
  obtain ⟨q, hq⟩ := lx_ix hl (i := 3) (v := .int x) (by simp) rfl
  exact lv_iinc C.1 C.2.1 hd hl hq hy hn rfl (fun ls' hl' => k p l e R s m args below meth c D H locs ls' C (lx_of1 (L := v0 :: v1 :: v2 :: .int x :: L) (i := 3) (x := .int y) (fun w _ q => by cases q; exact hc) hl') hP hS)
theorem j_lld3 {v0 v1 v2 : Value} {x : Int64} (hd : decode mi.2.1 pc = .ok (.lload_n 3, 1)) (k : J a mi d g (pc + 1) (v0 :: v1 :: v2 :: .long x :: L) (.long x :: st) (S)) : J a mi d g (pc) (v0 :: v1 :: v2 :: .long x :: L) (st) (S) := by
  intro p l e R s m args below meth c D H locs ls C hl hP hS
  exact lv_lload_n C.1 C.2.1 hd rfl (lx_at hl (i := 3) (v := .long x) (by simp) rfl) (k p l e R s m args below meth c D H locs ls C hl hP hS)
theorem j_lst3 {v0 v1 v2 : Value} {w z : Value} {x : Int64} (hd : decode mi.2.1 pc = .ok (.lstore_n 3, 1)) (hc : v2.category = 1 := by rfl) (k : J a mi d g (pc + 1) (v0 :: v1 :: v2 :: .long x :: .null :: L) (st) (S)) (hn : 3 + 1 < mi.2.2.1 := by decide) : J a mi d g (pc) (v0 :: v1 :: v2 :: w :: z :: L) (.long x :: st) (S) := by
  intro p l e R s m args below meth c D H locs ls C hl hP hS
  exact lv_lstore_n (i := 3) C.1 C.2.1 hd rfl hl hn rfl (fun ls' hl' => k p l e R s m args below meth c D H locs ls' C (lx_of2 (L := v0 :: v1 :: v2 :: w :: z :: L) (i := 3) (x := .long x) (fun w _ q => by cases q; exact hc) hl') hP hS)
theorem j_ald3 {v0 v1 v2 : Value} {x : Nat} (hd : decode mi.2.1 pc = .ok (.aload_n 3, 1)) (k : J a mi d g (pc + 1) (v0 :: v1 :: v2 :: .ref x :: L) (.ref x :: st) (S)) : J a mi d g (pc) (v0 :: v1 :: v2 :: .ref x :: L) (st) (S) := by
  intro p l e R s m args below meth c D H locs ls C hl hP hS
  exact lv_aload_n C.1 C.2.1 hd rfl (lx_at hl (i := 3) (v := .ref x) (by simp) rfl) (k p l e R s m args below meth c D H locs ls C hl hP hS)
theorem j_ast3 {v0 v1 v2 : Value} {w : Value} {x : Nat} (hd : decode mi.2.1 pc = .ok (.astore_n 3, 1)) (hc : v2.category = 1 := by rfl) (k : J a mi d g (pc + 1) (v0 :: v1 :: v2 :: .ref x :: L) (st) (S)) (hn : 3 < mi.2.2.1 := by decide) : J a mi d g (pc) (v0 :: v1 :: v2 :: w :: L) (.ref x :: st) (S) := by
  intro p l e R s m args below meth c D H locs ls C hl hP hS
  exact lv_astore_n (i := 3) C.1 C.2.1 hd rfl hl hn rfl (fun ls' hl' => k p l e R s m args below meth c D H locs ls' C (lx_of1 (L := v0 :: v1 :: v2 :: w :: L) (i := 3) (x := .ref x) (fun w _ q => by cases q; exact hc) hl') hP hS)
theorem j_ild4 {v0 v1 v2 v3 : Value} {x : Int32} (hd : decode mi.2.1 pc = .ok (.iload 4, 2)) (k : J a mi d g (pc + 2) (v0 :: v1 :: v2 :: v3 :: .int x :: L) (.int x :: st) (S)) : J a mi d g (pc) (v0 :: v1 :: v2 :: v3 :: .int x :: L) (st) (S) := by
  intro p l e R s m args below meth c D H locs ls C hl hP hS
  exact lv_iload C.1 C.2.1 hd (lx_at hl (i := 4) (v := .int x) (by simp) rfl) (k p l e R s m args below meth c D H locs ls C hl hP hS)
theorem j_ist4 {v0 v1 v2 v3 : Value} {w : Value} {x : Int32} (hd : decode mi.2.1 pc = .ok (.istore 4, 2)) (hc : v3.category = 1 := by rfl) (k : J a mi d g (pc + 2) (v0 :: v1 :: v2 :: v3 :: .int x :: L) (st) (S)) (hn : 4 < mi.2.2.1 := by decide) : J a mi d g (pc) (v0 :: v1 :: v2 :: v3 :: w :: L) (.int x :: st) (S) := by
  intro p l e R s m args below meth c D H locs ls C hl hP hS
  exact lv_istore C.1 C.2.1 hd hl hn rfl (fun ls' hl' => k p l e R s m args below meth c D H locs ls' C (lx_of1 (L := v0 :: v1 :: v2 :: v3 :: w :: L) (i := 4) (x := .int x) (fun w _ q => by cases q; exact hc) hl') hP hS)
theorem j_iinc4 {v0 v1 v2 v3 : Value} {x : Int32} {n : Int} (y : Int32) (hd : decode mi.2.1 pc = .ok (.iinc 4 n, 3)) (hy : x + Int32.ofInt n = y) (hc : v3.category = 1 := by rfl) (k : J a mi d g (pc + 3) (v0 :: v1 :: v2 :: v3 :: .int y :: L) (st) (S)) (hn : 4 < mi.2.2.1 := by decide) : J a mi d g (pc) (v0 :: v1 :: v2 :: v3 :: .int x :: L) (st) (S) := by
  intro p l e R s m args below meth c D H locs ls C hl hP hS
  obtain ⟨q, hq⟩ := lx_ix hl (i := 4) (v := .int x) (by simp) rfl
  exact lv_iinc C.1 C.2.1 hd hl hq hy hn rfl (fun ls' hl' => k p l e R s m args below meth c D H locs ls' C (lx_of1 (L := v0 :: v1 :: v2 :: v3 :: .int x :: L) (i := 4) (x := .int y) (fun w _ q => by cases q; exact hc) hl') hP hS)
theorem j_lld4 {v0 v1 v2 v3 : Value} {x : Int64} (hd : decode mi.2.1 pc = .ok (.lload 4, 2)) (k : J a mi d g (pc + 2) (v0 :: v1 :: v2 :: v3 :: .long x :: L) (.long x :: st) (S)) : J a mi d g (pc) (v0 :: v1 :: v2 :: v3 :: .long x :: L) (st) (S) := by
  intro p l e R s m args below meth c D H locs ls C hl hP hS
  exact lv_lload C.1 C.2.1 hd (lx_at hl (i := 4) (v := .long x) (by simp) rfl) (k p l e R s m args below meth c D H locs ls C hl hP hS)
theorem j_lst4 {v0 v1 v2 v3 : Value} {w z : Value} {x : Int64} (hd : decode mi.2.1 pc = .ok (.lstore 4, 2)) (hc : v3.category = 1 := by rfl) (k : J a mi d g (pc + 2) (v0 :: v1 :: v2 :: v3 :: .long x :: .null :: L) (st) (S)) (hn : 4 + 1 < mi.2.2.1 := by decide) : J a mi d g (pc) (v0 :: v1 :: v2 :: v3 :: w :: z :: L) (.long x :: st) (S) := by
  intro p l e R s m args below meth c D H locs ls C hl hP hS
  exact lv_lstore C.1 C.2.1 hd hl hn rfl (fun ls' hl' => k p l e R s m args below meth c D H locs ls' C (lx_of2 (L := v0 :: v1 :: v2 :: v3 :: w :: z :: L) (i := 4) (x := .long x) (fun w _ q => by cases q; exact hc) hl') hP hS)
theorem j_ald4 {v0 v1 v2 v3 : Value} {x : Nat} (hd : decode mi.2.1 pc = .ok (.aload 4, 2)) (k : J a mi d g (pc + 2) (v0 :: v1 :: v2 :: v3 :: .ref x :: L) (.ref x :: st) (S)) : J a mi d g (pc) (v0 :: v1 :: v2 :: v3 :: .ref x :: L) (st) (S) := by
  intro p l e R s m args below meth c D H locs ls C hl hP hS
  exact lv_aload C.1 C.2.1 hd (lx_at hl (i := 4) (v := .ref x) (by simp) rfl) (k p l e R s m args below meth c D H locs ls C hl hP hS)
theorem j_ast4 {v0 v1 v2 v3 : Value} {w : Value} {x : Nat} (hd : decode mi.2.1 pc = .ok (.astore 4, 2)) (hc : v3.category = 1 := by rfl) (k : J a mi d g (pc + 2) (v0 :: v1 :: v2 :: v3 :: .ref x :: L) (st) (S)) (hn : 4 < mi.2.2.1 := by decide) : J a mi d g (pc) (v0 :: v1 :: v2 :: v3 :: w :: L) (.ref x :: st) (S) := by
  intro p l e R s m args below meth c D H locs ls C hl hP hS
  exact lv_astore C.1 C.2.1 hd hl hn rfl (fun ls' hl' => k p l e R s m args below meth c D H locs ls' C (lx_of1 (L := v0 :: v1 :: v2 :: v3 :: w :: L) (i := 4) (x := .ref x) (fun w _ q => by cases q; exact hc) hl') hP hS)
theorem j_ild5 {v0 v1 v2 v3 v4 : Value} {x : Int32} (hd : decode mi.2.1 pc = .ok (.iload 5, 2)) (k : J a mi d g (pc + 2) (v0 :: v1 :: v2 :: v3 :: v4 :: .int x :: L) (.int x :: st) (S)) : J a mi d g (pc) (v0 :: v1 :: v2 :: v3 :: v4 :: .int x :: L) (st) (S) := by
  intro p l e R s m args below meth c D H locs ls C hl hP hS
  exact lv_iload C.1 C.2.1 hd (lx_at hl (i := 5) (v := .int x) (by simp) rfl) (k p l e R s m args below meth c D H locs ls C hl hP hS)
theorem j_ist5 {v0 v1 v2 v3 v4 : Value} {w : Value} {x : Int32} (hd : decode mi.2.1 pc = .ok (.istore 5, 2)) (hc : v4.category = 1 := by rfl) (k : J a mi d g (pc + 2) (v0 :: v1 :: v2 :: v3 :: v4 :: .int x :: L) (st) (S)) (hn : 5 < mi.2.2.1 := by decide) : J a mi d g (pc) (v0 :: v1 :: v2 :: v3 :: v4 :: w :: L) (.int x :: st) (S) := by
  intro p l e R s m args below meth c D H locs ls C hl hP hS
  exact lv_istore C.1 C.2.1 hd hl hn rfl (fun ls' hl' => k p l e R s m args below meth c D H locs ls' C (lx_of1 (L := v0 :: v1 :: v2 :: v3 :: v4 :: w :: L) (i := 5) (x := .int x) (fun w _ q => by cases q; exact hc) hl') hP hS)
theorem j_iinc5 {v0 v1 v2 v3 v4 : Value} {x : Int32} {n : Int} (y : Int32) (hd : decode mi.2.1 pc = .ok (.iinc 5 n, 3)) (hy : x + Int32.ofInt n = y) (hc : v4.category = 1 := by rfl) (k : J a mi d g (pc + 3) (v0 :: v1 :: v2 :: v3 :: v4 :: .int y :: L) (st) (S)) (hn : 5 < mi.2.2.1 := by decide) : J a mi d g (pc) (v0 :: v1 :: v2 :: v3 :: v4 :: .int x :: L) (st) (S) := by
  intro p l e R s m args below meth c D H locs ls C hl hP hS
  obtain ⟨q, hq⟩ := lx_ix hl (i := 5) (v := .int x) (by simp) rfl
  exact lv_iinc C.1 C.2.1 hd hl hq hy hn rfl (fun ls' hl' => k p l e R s m args below meth c D H locs ls' C (lx_of1 (L := v0 :: v1 :: v2 :: v3 :: v4 :: .int x :: L) (i := 5) (x := .int y) (fun w _ q => by cases q; exact hc) hl') hP hS)
theorem j_lld5 {v0 v1 v2 v3 v4 : Value} {x : Int64} (hd : decode mi.2.1 pc = .ok (.lload 5, 2)) (k : J a mi d g (pc + 2) (v0 :: v1 :: v2 :: v3 :: v4 :: .long x :: L) (.long x :: st) (S)) : J a mi d g (pc) (v0 :: v1 :: v2 :: v3 :: v4 :: .long x :: L) (st) (S) := by
  intro p l e R s m args below meth c D H locs ls C hl hP hS
  exact lv_lload C.1 C.2.1 hd (lx_at hl (i := 5) (v := .long x) (by simp) rfl) (k p l e R s m args below meth c D H locs ls C hl hP hS)
theorem j_lst5 {v0 v1 v2 v3 v4 : Value} {w z : Value} {x : Int64} (hd : decode mi.2.1 pc = .ok (.lstore 5, 2)) (hc : v4.category = 1 := by rfl) (k : J a mi d g (pc + 2) (v0 :: v1 :: v2 :: v3 :: v4 :: .long x :: .null :: L) (st) (S)) (hn : 5 + 1 < mi.2.2.1 := by decide) : J a mi d g (pc) (v0 :: v1 :: v2 :: v3 :: v4 :: w :: z :: L) (.long x :: st) (S) := by
  intro p l e R s m args below meth c D H locs ls C hl hP hS
  exact lv_lstore C.1 C.2.1 hd hl hn rfl (fun ls' hl' => k p l e R s m args below meth c D H locs ls' C (lx_of2 (L := v0 :: v1 :: v2 :: v3 :: v4 :: w :: z :: L) (i := 5) (x := .long x) (fun w _ q => by cases q; exact hc) hl') hP hS)
theorem j_ald5 {v0 v1 v2 v3 v4 : Value} {x : Nat} (hd : decode mi.2.1 pc = .ok (.aload 5, 2)) (k : J a mi d g (pc + 2) (v0 :: v1 :: v2 :: v3 :: v4 :: .ref x :: L) (.ref x :: st) (S)) : J a mi d g (pc) (v0 :: v1 :: v2 :: v3 :: v4 :: .ref x :: L) (st) (S) := by
  intro p l e R s m args below meth c D H locs ls C hl hP hS
  exact lv_aload C.1 C.2.1 hd (lx_at hl (i := 5) (v := .ref x) (by simp) rfl) (k p l e R s m args below meth c D H locs ls C hl hP hS)
theorem j_ast5 {v0 v1 v2 v3 v4 : Value} {w : Value} {x : Nat} (hd : decode mi.2.1 pc = .ok (.astore 5, 2)) (hc : v4.category = 1 := by rfl) (k : J a mi d g (pc + 2) (v0 :: v1 :: v2 :: v3 :: v4 :: .ref x :: L) (st) (S)) (hn : 5 < mi.2.2.1 := by decide) : J a mi d g (pc) (v0 :: v1 :: v2 :: v3 :: v4 :: w :: L) (.ref x :: st) (S) := by
  intro p l e R s m args below meth c D H locs ls C hl hP hS
  exact lv_astore C.1 C.2.1 hd hl hn rfl (fun ls' hl' => k p l e R s m args below meth c D H locs ls' C (lx_of1 (L := v0 :: v1 :: v2 :: v3 :: v4 :: w :: L) (i := 5) (x := .ref x) (fun w _ q => by cases q; exact hc) hl') hP hS)
theorem j_ild6 {v0 v1 v2 v3 v4 v5 : Value} {x : Int32} (hd : decode mi.2.1 pc = .ok (.iload 6, 2)) (k : J a mi d g (pc + 2) (v0 :: v1 :: v2 :: v3 :: v4 :: v5 :: .int x :: L) (.int x :: st) (S)) : J a mi d g (pc) (v0 :: v1 :: v2 :: v3 :: v4 :: v5 :: .int x :: L) (st) (S) := by
  intro p l e R s m args below meth c D H locs ls C hl hP hS
  exact lv_iload C.1 C.2.1 hd (lx_at hl (i := 6) (v := .int x) (by simp) rfl) (k p l e R s m args below meth c D H locs ls C hl hP hS)
theorem j_ist6 {v0 v1 v2 v3 v4 v5 : Value} {w : Value} {x : Int32} (hd : decode mi.2.1 pc = .ok (.istore 6, 2)) (hc : v5.category = 1 := by rfl) (k : J a mi d g (pc + 2) (v0 :: v1 :: v2 :: v3 :: v4 :: v5 :: .int x :: L) (st) (S)) (hn : 6 < mi.2.2.1 := by decide) : J a mi d g (pc) (v0 :: v1 :: v2 :: v3 :: v4 :: v5 :: w :: L) (.int x :: st) (S) := by
  intro p l e R s m args below meth c D H locs ls C hl hP hS
  exact lv_istore C.1 C.2.1 hd hl hn rfl (fun ls' hl' => k p l e R s m args below meth c D H locs ls' C (lx_of1 (L := v0 :: v1 :: v2 :: v3 :: v4 :: v5 :: w :: L) (i := 6) (x := .int x) (fun w _ q => by cases q; exact hc) hl') hP hS)
theorem j_iinc6 {v0 v1 v2 v3 v4 v5 : Value} {x : Int32} {n : Int} (y : Int32) (hd : decode mi.2.1 pc = .ok (.iinc 6 n, 3)) (hy : x + Int32.ofInt n = y) (hc : v5.category = 1 := by rfl) (k : J a mi d g (pc + 3) (v0 :: v1 :: v2 :: v3 :: v4 :: v5 :: .int y :: L) (st) (S)) (hn : 6 < mi.2.2.1 := by decide) : J a mi d g (pc) (v0 :: v1 :: v2 :: v3 :: v4 :: v5 :: .int x :: L) (st) (S) := by
  intro p l e R s m args below meth c D H locs ls C hl hP hS
  obtain ⟨q, hq⟩ := lx_ix hl (i := 6) (v := .int x) (by simp) rfl
  exact lv_iinc C.1 C.2.1 hd hl hq hy hn rfl (fun ls' hl' => k p l e R s m args below meth c D H locs ls' C (lx_of1 (L := v0 :: v1 :: v2 :: v3 :: v4 :: v5 :: .int x :: L) (i := 6) (x := .int y) (fun w _ q => by cases q; exact hc) hl') hP hS)
theorem j_lld6 {v0 v1 v2 v3 v4 v5 : Value} {x : Int64} (hd : decode mi.2.1 pc = .ok (.lload 6, 2)) (k : J a mi d g (pc + 2) (v0 :: v1 :: v2 :: v3 :: v4 :: v5 :: .long x :: L) (.long x :: st) (S)) : J a mi d g (pc) (v0 :: v1 :: v2 :: v3 :: v4 :: v5 :: .long x :: L) (st) (S) := by
  intro p l e R s m args below meth c D H locs ls C hl hP hS
  exact lv_lload C.1 C.2.1 hd (lx_at hl (i := 6) (v := .long x) (by simp) rfl) (k p l e R s m args below meth c D H locs ls C hl hP hS)
theorem j_lst6 {v0 v1 v2 v3 v4 v5 : Value} {w z : Value} {x : Int64} (hd : decode mi.2.1 pc = .ok (.lstore 6, 2)) (hc : v5.category = 1 := by rfl) (k : J a mi d g (pc + 2) (v0 :: v1 :: v2 :: v3 :: v4 :: v5 :: .long x :: .null :: L) (st) (S)) (hn : 6 + 1 < mi.2.2.1 := by decide) : J a mi d g (pc) (v0 :: v1 :: v2 :: v3 :: v4 :: v5 :: w :: z :: L) (.long x :: st) (S) := by
  intro p l e R s m args below meth c D H locs ls C hl hP hS
  exact lv_lstore C.1 C.2.1 hd hl hn rfl (fun ls' hl' => k p l e R s m args below meth c D H locs ls' C (lx_of2 (L := v0 :: v1 :: v2 :: v3 :: v4 :: v5 :: w :: z :: L) (i := 6) (x := .long x) (fun w _ q => by cases q; exact hc) hl') hP hS)
theorem j_ald6 {v0 v1 v2 v3 v4 v5 : Value} {x : Nat} (hd : decode mi.2.1 pc = .ok (.aload 6, 2)) (k : J a mi d g (pc + 2) (v0 :: v1 :: v2 :: v3 :: v4 :: v5 :: .ref x :: L) (.ref x :: st) (S)) : J a mi d g (pc) (v0 :: v1 :: v2 :: v3 :: v4 :: v5 :: .ref x :: L) (st) (S) := by
  intro p l e R s m args below meth c D H locs ls C hl hP hS
  exact lv_aload C.1 C.2.1 hd (lx_at hl (i := 6) (v := .ref x) (by simp) rfl) (k p l e R s m args below meth c D H locs ls C hl hP hS)
theorem j_ast6 {v0 v1 v2 v3 v4 v5 : Value} {w : Value} {x : Nat} (hd : decode mi.2.1 pc = .ok (.astore 6, 2)) (hc : v5.category = 1 := by rfl) (k : J a mi d g (pc + 2) (v0 :: v1 :: v2 :: v3 :: v4 :: v5 :: .ref x :: L) (st) (S)) (hn : 6 < mi.2.2.1 := by decide) : J a mi d g (pc) (v0 :: v1 :: v2 :: v3 :: v4 :: v5 :: w :: L) (.ref x :: st) (S) := by
  intro p l e R s m args below meth c D H locs ls C hl hP hS
  exact lv_astore C.1 C.2.1 hd hl hn rfl (fun ls' hl' => k p l e R s m args below meth c D H locs ls' C (lx_of1 (L := v0 :: v1 :: v2 :: v3 :: v4 :: v5 :: w :: L) (i := 6) (x := .ref x) (fun w _ q => by cases q; exact hc) hl') hP hS)
theorem j_ild7 {v0 v1 v2 v3 v4 v5 v6 : Value} {x : Int32} (hd : decode mi.2.1 pc = .ok (.iload 7, 2)) (k : J a mi d g (pc + 2) (v0 :: v1 :: v2 :: v3 :: v4 :: v5 :: v6 :: .int x :: L) (.int x :: st) (S)) : J a mi d g (pc) (v0 :: v1 :: v2 :: v3 :: v4 :: v5 :: v6 :: .int x :: L) (st) (S) := by
  intro p l e R s m args below meth c D H locs ls C hl hP hS
  exact lv_iload C.1 C.2.1 hd (lx_at hl (i := 7) (v := .int x) (by simp) rfl) (k p l e R s m args below meth c D H locs ls C hl hP hS)
theorem j_ist7 {v0 v1 v2 v3 v4 v5 v6 : Value} {w : Value} {x : Int32} (hd : decode mi.2.1 pc = .ok (.istore 7, 2)) (hc : v6.category = 1 := by rfl) (k : J a mi d g (pc + 2) (v0 :: v1 :: v2 :: v3 :: v4 :: v5 :: v6 :: .int x :: L) (st) (S)) (hn : 7 < mi.2.2.1 := by decide) : J a mi d g (pc) (v0 :: v1 :: v2 :: v3 :: v4 :: v5 :: v6 :: w :: L) (.int x :: st) (S) := by
  intro p l e R s m args below meth c D H locs ls C hl hP hS
  exact lv_istore C.1 C.2.1 hd hl hn rfl (fun ls' hl' => k p l e R s m args below meth c D H locs ls' C (lx_of1 (L := v0 :: v1 :: v2 :: v3 :: v4 :: v5 :: v6 :: w :: L) (i := 7) (x := .int x) (fun w _ q => by cases q; exact hc) hl') hP hS)
theorem j_iinc7 {v0 v1 v2 v3 v4 v5 v6 : Value} {x : Int32} {n : Int} (y : Int32) (hd : decode mi.2.1 pc = .ok (.iinc 7 n, 3)) (hy : x + Int32.ofInt n = y) (hc : v6.category = 1 := by rfl) (k : J a mi d g (pc + 3) (v0 :: v1 :: v2 :: v3 :: v4 :: v5 :: v6 :: .int y :: L) (st) (S)) (hn : 7 < mi.2.2.1 := by decide) : J a mi d g (pc) (v0 :: v1 :: v2 :: v3 :: v4 :: v5 :: v6 :: .int x :: L) (st) (S) := by
  intro p l e R s m args below meth c D H locs ls C hl hP hS
  obtain ⟨q, hq⟩ := lx_ix hl (i := 7) (v := .int x) (by simp) rfl
  exact lv_iinc C.1 C.2.1 hd hl hq hy hn rfl (fun ls' hl' => k p l e R s m args below meth c D H locs ls' C (lx_of1 (L := v0 :: v1 :: v2 :: v3 :: v4 :: v5 :: v6 :: .int x :: L) (i := 7) (x := .int y) (fun w _ q => by cases q; exact hc) hl') hP hS)
theorem j_lld7 {v0 v1 v2 v3 v4 v5 v6 : Value} {x : Int64} (hd : decode mi.2.1 pc = .ok (.lload 7, 2)) (k : J a mi d g (pc + 2) (v0 :: v1 :: v2 :: v3 :: v4 :: v5 :: v6 :: .long x :: L) (.long x :: st) (S)) : J a mi d g (pc) (v0 :: v1 :: v2 :: v3 :: v4 :: v5 :: v6 :: .long x :: L) (st) (S) := by
  intro p l e R s m args below meth c D H locs ls C hl hP hS
  exact lv_lload C.1 C.2.1 hd (lx_at hl (i := 7) (v := .long x) (by simp) rfl) (k p l e R s m args below meth c D H locs ls C hl hP hS)
theorem j_lst7 {v0 v1 v2 v3 v4 v5 v6 : Value} {w z : Value} {x : Int64} (hd : decode mi.2.1 pc = .ok (.lstore 7, 2)) (hc : v6.category = 1 := by rfl) (k : J a mi d g (pc + 2) (v0 :: v1 :: v2 :: v3 :: v4 :: v5 :: v6 :: .long x :: .null :: L) (st) (S)) (hn : 7 + 1 < mi.2.2.1 := by decide) : J a mi d g (pc) (v0 :: v1 :: v2 :: v3 :: v4 :: v5 :: v6 :: w :: z :: L) (.long x :: st) (S) := by
  intro p l e R s m args below meth c D H locs ls C hl hP hS
  exact lv_lstore C.1 C.2.1 hd hl hn rfl (fun ls' hl' => k p l e R s m args below meth c D H locs ls' C (lx_of2 (L := v0 :: v1 :: v2 :: v3 :: v4 :: v5 :: v6 :: w :: z :: L) (i := 7) (x := .long x) (fun w _ q => by cases q; exact hc) hl') hP hS)
theorem j_ald7 {v0 v1 v2 v3 v4 v5 v6 : Value} {x : Nat} (hd : decode mi.2.1 pc = .ok (.aload 7, 2)) (k : J a mi d g (pc + 2) (v0 :: v1 :: v2 :: v3 :: v4 :: v5 :: v6 :: .ref x :: L) (.ref x :: st) (S)) : J a mi d g (pc) (v0 :: v1 :: v2 :: v3 :: v4 :: v5 :: v6 :: .ref x :: L) (st) (S) := by
  intro p l e R s m args below meth c D H locs ls C hl hP hS
  exact lv_aload C.1 C.2.1 hd (lx_at hl (i := 7) (v := .ref x) (by simp) rfl) (k p l e R s m args below meth c D H locs ls C hl hP hS)
theorem j_ast7 {v0 v1 v2 v3 v4 v5 v6 : Value} {w : Value} {x : Nat} (hd : decode mi.2.1 pc = .ok (.astore 7, 2)) (hc : v6.category = 1 := by rfl) (k : J a mi d g (pc + 2) (v0 :: v1 :: v2 :: v3 :: v4 :: v5 :: v6 :: .ref x :: L) (st) (S)) (hn : 7 < mi.2.2.1 := by decide) : J a mi d g (pc) (v0 :: v1 :: v2 :: v3 :: v4 :: v5 :: v6 :: w :: L) (.ref x :: st) (S) := by
  intro p l e R s m args below meth c D H locs ls C hl hP hS
  exact lv_astore C.1 C.2.1 hd hl hn rfl (fun ls' hl' => k p l e R s m args below meth c D H locs ls' C (lx_of1 (L := v0 :: v1 :: v2 :: v3 :: v4 :: v5 :: v6 :: w :: L) (i := 7) (x := .ref x) (fun w _ q => by cases q; exact hc) hl') hP hS)
theorem j_ild8 {v0 v1 v2 v3 v4 v5 v6 v7 : Value} {x : Int32} (hd : decode mi.2.1 pc = .ok (.iload 8, 2)) (k : J a mi d g (pc + 2) (v0 :: v1 :: v2 :: v3 :: v4 :: v5 :: v6 :: v7 :: .int x :: L) (.int x :: st) (S)) : J a mi d g (pc) (v0 :: v1 :: v2 :: v3 :: v4 :: v5 :: v6 :: v7 :: .int x :: L) (st) (S) := by
  intro p l e R s m args below meth c D H locs ls C hl hP hS
  exact lv_iload C.1 C.2.1 hd (lx_at hl (i := 8) (v := .int x) (by simp) rfl) (k p l e R s m args below meth c D H locs ls C hl hP hS)
theorem j_ist8 {v0 v1 v2 v3 v4 v5 v6 v7 : Value} {w : Value} {x : Int32} (hd : decode mi.2.1 pc = .ok (.istore 8, 2)) (hc : v7.category = 1 := by rfl) (k : J a mi d g (pc + 2) (v0 :: v1 :: v2 :: v3 :: v4 :: v5 :: v6 :: v7 :: .int x :: L) (st) (S)) (hn : 8 < mi.2.2.1 := by decide) : J a mi d g (pc) (v0 :: v1 :: v2 :: v3 :: v4 :: v5 :: v6 :: v7 :: w :: L) (.int x :: st) (S) := by
  intro p l e R s m args below meth c D H locs ls C hl hP hS
  exact lv_istore C.1 C.2.1 hd hl hn rfl (fun ls' hl' => k p l e R s m args below meth c D H locs ls' C (lx_of1 (L := v0 :: v1 :: v2 :: v3 :: v4 :: v5 :: v6 :: v7 :: w :: L) (i := 8) (x := .int x) (fun w _ q => by cases q; exact hc) hl') hP hS)
theorem j_iinc8 {v0 v1 v2 v3 v4 v5 v6 v7 : Value} {x : Int32} {n : Int} (y : Int32) (hd : decode mi.2.1 pc = .ok (.iinc 8 n, 3)) (hy : x + Int32.ofInt n = y) (hc : v7.category = 1 := by rfl) (k : J a mi d g (pc + 3) (v0 :: v1 :: v2 :: v3 :: v4 :: v5 :: v6 :: v7 :: .int y :: L) (st) (S)) (hn : 8 < mi.2.2.1 := by decide) : J a mi d g (pc) (v0 :: v1 :: v2 :: v3 :: v4 :: v5 :: v6 :: v7 :: .int x :: L) (st) (S) := by
  intro p l e R s m args below meth c D H locs ls C hl hP hS
  obtain ⟨q, hq⟩ := lx_ix hl (i := 8) (v := .int x) (by simp) rfl
  exact lv_iinc C.1 C.2.1 hd hl hq hy hn rfl (fun ls' hl' => k p l e R s m args below meth c D H locs ls' C (lx_of1 (L := v0 :: v1 :: v2 :: v3 :: v4 :: v5 :: v6 :: v7 :: .int x :: L) (i := 8) (x := .int y) (fun w _ q => by cases q; exact hc) hl') hP hS)
theorem j_lld8 {v0 v1 v2 v3 v4 v5 v6 v7 : Value} {x : Int64} (hd : decode mi.2.1 pc = .ok (.lload 8, 2)) (k : J a mi d g (pc + 2) (v0 :: v1 :: v2 :: v3 :: v4 :: v5 :: v6 :: v7 :: .long x :: L) (.long x :: st) (S)) : J a mi d g (pc) (v0 :: v1 :: v2 :: v3 :: v4 :: v5 :: v6 :: v7 :: .long x :: L) (st) (S) := by
  intro p l e R s m args below meth c D H locs ls C hl hP hS
  exact lv_lload C.1 C.2.1 hd (lx_at hl (i := 8) (v := .long x) (by simp) rfl) (k p l e R s m args below meth c D H locs ls C hl hP hS)
theorem j_lst8 {v0 v1 v2 v3 v4 v5 v6 v7 : Value} {w z : Value} {x : Int64} (hd : decode mi.2.1 pc = .ok (.lstore 8, 2)) (hc : v7.category = 1 := by rfl) (k : J a mi d g (pc + 2) (v0 :: v1 :: v2 :: v3 :: v4 :: v5 :: v6 :: v7 :: .long x :: .null :: L) (st) (S)) (hn : 8 + 1 < mi.2.2.1 := by decide) : J a mi d g (pc) (v0 :: v1 :: v2 :: v3 :: v4 :: v5 :: v6 :: v7 :: w :: z :: L) (.long x :: st) (S) := by
  intro p l e R s m args below meth c D H locs ls C hl hP hS
  exact lv_lstore C.1 C.2.1 hd hl hn rfl (fun ls' hl' => k p l e R s m args below meth c D H locs ls' C (lx_of2 (L := v0 :: v1 :: v2 :: v3 :: v4 :: v5 :: v6 :: v7 :: w :: z :: L) (i := 8) (x := .long x) (fun w _ q => by cases q; exact hc) hl') hP hS)
theorem j_ald8 {v0 v1 v2 v3 v4 v5 v6 v7 : Value} {x : Nat} (hd : decode mi.2.1 pc = .ok (.aload 8, 2)) (k : J a mi d g (pc + 2) (v0 :: v1 :: v2 :: v3 :: v4 :: v5 :: v6 :: v7 :: .ref x :: L) (.ref x :: st) (S)) : J a mi d g (pc) (v0 :: v1 :: v2 :: v3 :: v4 :: v5 :: v6 :: v7 :: .ref x :: L) (st) (S) := by
  intro p l e R s m args below meth c D H locs ls C hl hP hS
  exact lv_aload C.1 C.2.1 hd (lx_at hl (i := 8) (v := .ref x) (by simp) rfl) (k p l e R s m args below meth c D H locs ls C hl hP hS)
theorem j_ast8 {v0 v1 v2 v3 v4 v5 v6 v7 : Value} {w : Value} {x : Nat} (hd : decode mi.2.1 pc = .ok (.astore 8, 2)) (hc : v7.category = 1 := by rfl) (k : J a mi d g (pc + 2) (v0 :: v1 :: v2 :: v3 :: v4 :: v5 :: v6 :: v7 :: .ref x :: L) (st) (S)) (hn : 8 < mi.2.2.1 := by decide) : J a mi d g (pc) (v0 :: v1 :: v2 :: v3 :: v4 :: v5 :: v6 :: v7 :: w :: L) (.ref x :: st) (S) := by
  intro p l e R s m args below meth c D H locs ls C hl hP hS
  exact lv_astore C.1 C.2.1 hd hl hn rfl (fun ls' hl' => k p l e R s m args below meth c D H locs ls' C (lx_of1 (L := v0 :: v1 :: v2 :: v3 :: v4 :: v5 :: v6 :: v7 :: w :: L) (i := 8) (x := .ref x) (fun w _ q => by cases q; exact hc) hl') hP hS)
theorem j_ild9 {v0 v1 v2 v3 v4 v5 v6 v7 v8 : Value} {x : Int32} (hd : decode mi.2.1 pc = .ok (.iload 9, 2)) (k : J a mi d g (pc + 2) (v0 :: v1 :: v2 :: v3 :: v4 :: v5 :: v6 :: v7 :: v8 :: .int x :: L) (.int x :: st) (S)) : J a mi d g (pc) (v0 :: v1 :: v2 :: v3 :: v4 :: v5 :: v6 :: v7 :: v8 :: .int x :: L) (st) (S) := by
  intro p l e R s m args below meth c D H locs ls C hl hP hS
  exact lv_iload C.1 C.2.1 hd (lx_at hl (i := 9) (v := .int x) (by simp) rfl) (k p l e R s m args below meth c D H locs ls C hl hP hS)
theorem j_ist9 {v0 v1 v2 v3 v4 v5 v6 v7 v8 : Value} {w : Value} {x : Int32} (hd : decode mi.2.1 pc = .ok (.istore 9, 2)) (hc : v8.category = 1 := by rfl) (k : J a mi d g (pc + 2) (v0 :: v1 :: v2 :: v3 :: v4 :: v5 :: v6 :: v7 :: v8 :: .int x :: L) (st) (S)) (hn : 9 < mi.2.2.1 := by decide) : J a mi d g (pc) (v0 :: v1 :: v2 :: v3 :: v4 :: v5 :: v6 :: v7 :: v8 :: w :: L) (.int x :: st) (S) := by
  intro p l e R s m args below meth c D H locs ls C hl hP hS
  exact lv_istore C.1 C.2.1 hd hl hn rfl (fun ls' hl' => k p l e R s m args below meth c D H locs ls' C (lx_of1 (L := v0 :: v1 :: v2 :: v3 :: v4 :: v5 :: v6 :: v7 :: v8 :: w :: L) (i := 9) (x := .int x) (fun w _ q => by cases q; exact hc) hl') hP hS)
theorem j_iinc9 {v0 v1 v2 v3 v4 v5 v6 v7 v8 : Value} {x : Int32} {n : Int} (y : Int32) (hd : decode mi.2.1 pc = .ok (.iinc 9 n, 3)) (hy : x + Int32.ofInt n = y) (hc : v8.category = 1 := by rfl) (k : J a mi d g (pc + 3) (v0 :: v1 :: v2 :: v3 :: v4 :: v5 :: v6 :: v7 :: v8 :: .int y :: L) (st) (S)) (hn : 9 < mi.2.2.1 := by decide) : J a mi d g (pc) (v0 :: v1 :: v2 :: v3 :: v4 :: v5 :: v6 :: v7 :: v8 :: .int x :: L) (st) (S) := by
  intro p l e R s m args below meth c D H locs ls C hl hP hS
  obtain ⟨q, hq⟩ := lx_ix hl (i := 9) (v := .int x) (by simp) rfl
  exact lv_iinc C.1 C.2.1 hd hl hq hy hn rfl (fun ls' hl' => k p l e R s m args below meth c D H locs ls' C (lx_of1 (L := v0 :: v1 :: v2 :: v3 :: v4 :: v5 :: v6 :: v7 :: v8 :: .int x :: L) (i := 9) (x := .int y) (fun w _ q => by cases q; exact hc) hl') hP hS)
theorem j_lld9 {v0 v1 v2 v3 v4 v5 v6 v7 v8 : Value} {x : Int64} (hd : decode mi.2.1 pc = .ok (.lload 9, 2)) (k : J a mi d g (pc + 2) (v0 :: v1 :: v2 :: v3 :: v4 :: v5 :: v6 :: v7 :: v8 :: .long x :: L) (.long x :: st) (S)) : J a mi d g (pc) (v0 :: v1 :: v2 :: v3 :: v4 :: v5 :: v6 :: v7 :: v8 :: .long x :: L) (st) (S) := by
  intro p l e R s m args below meth c D H locs ls C hl hP hS
  exact lv_lload C.1 C.2.1 hd (lx_at hl (i := 9) (v := .long x) (by simp) rfl) (k p l e R s m args below meth c D H locs ls C hl hP hS)
theorem j_lst9 {v0 v1 v2 v3 v4 v5 v6 v7 v8 : Value} {w z : Value} {x : Int64} (hd : decode mi.2.1 pc = .ok (.lstore 9, 2)) (hc : v8.category = 1 := by rfl) (k : J a mi d g (pc + 2) (v0 :: v1 :: v2 :: v3 :: v4 :: v5 :: v6 :: v7 :: v8 :: .long x :: .null :: L) (st) (S)) (hn : 9 + 1 < mi.2.2.1 := by decide) : J a mi d g (pc) (v0 :: v1 :: v2 :: v3 :: v4 :: v5 :: v6 :: v7 :: v8 :: w :: z :: L) (.long x :: st) (S) := by
  intro p l e R s m args below meth c D H locs ls C hl hP hS
  exact lv_lstore C.1 C.2.1 hd hl hn rfl (fun ls' hl' => k p l e R s m args below meth c D H locs ls' C (lx_of2 (L := v0 :: v1 :: v2 :: v3 :: v4 :: v5 :: v6 :: v7 :: v8 :: w :: z :: L) (i := 9) (x := .long x) (fun w _ q => by cases q; exact hc) hl') hP hS)
theorem j_ald9 {v0 v1 v2 v3 v4 v5 v6 v7 v8 : Value} {x : Nat} (hd : decode mi.2.1 pc = .ok (.aload 9, 2)) (k : J a mi d g (pc + 2) (v0 :: v1 :: v2 :: v3 :: v4 :: v5 :: v6 :: v7 :: v8 :: .ref x :: L) (.ref x :: st) (S)) : J a mi d g (pc) (v0 :: v1 :: v2 :: v3 :: v4 :: v5 :: v6 :: v7 :: v8 :: .ref x :: L) (st) (S) := by
  intro p l e R s m args below meth c D H locs ls C hl hP hS
  exact lv_aload C.1 C.2.1 hd (lx_at hl (i := 9) (v := .ref x) (by simp) rfl) (k p l e R s m args below meth c D H locs ls C hl hP hS)
theorem j_ast9 {v0 v1 v2 v3 v4 v5 v6 v7 v8 : Value} {w : Value} {x : Nat} (hd : decode mi.2.1 pc = .ok (.astore 9, 2)) (hc : v8.category = 1 := by rfl) (k : J a mi d g (pc + 2) (v0 :: v1 :: v2 :: v3 :: v4 :: v5 :: v6 :: v7 :: v8 :: .ref x :: L) (st) (S)) (hn : 9 < mi.2.2.1 := by decide) : J a mi d g (pc) (v0 :: v1 :: v2 :: v3 :: v4 :: v5 :: v6 :: v7 :: v8 :: w :: L) (.ref x :: st) (S) := by
  intro p l e R s m args below meth c D H locs ls C hl hP hS
  exact lv_astore C.1 C.2.1 hd hl hn rfl (fun ls' hl' => k p l e R s m args below meth c D H locs ls' C (lx_of1 (L := v0 :: v1 :: v2 :: v3 :: v4 :: v5 :: v6 :: v7 :: v8 :: w :: L) (i := 9) (x := .ref x) (fun w _ q => by cases q; exact hc) hl') hP hS)
theorem j_ild10 {v0 v1 v2 v3 v4 v5 v6 v7 v8 v9 : Value} {x : Int32} (hd : decode mi.2.1 pc = .ok (.iload 10, 2)) (k : J a mi d g (pc + 2) (v0 :: v1 :: v2 :: v3 :: v4 :: v5 :: v6 :: v7 :: v8 :: v9 :: .int x :: L) (.int x :: st) (S)) : J a mi d g (pc) (v0 :: v1 :: v2 :: v3 :: v4 :: v5 :: v6 :: v7 :: v8 :: v9 :: .int x :: L) (st) (S) := by
  intro p l e R s m args below meth c D H locs ls C hl hP hS
  exact lv_iload C.1 C.2.1 hd (lx_at hl (i := 10) (v := .int x) (by simp) rfl) (k p l e R s m args below meth c D H locs ls C hl hP hS)
theorem j_ist10 {v0 v1 v2 v3 v4 v5 v6 v7 v8 v9 : Value} {w : Value} {x : Int32} (hd : decode mi.2.1 pc = .ok (.istore 10, 2)) (hc : v9.category = 1 := by rfl) (k : J a mi d g (pc + 2) (v0 :: v1 :: v2 :: v3 :: v4 :: v5 :: v6 :: v7 :: v8 :: v9 :: .int x :: L) (st) (S)) (hn : 10 < mi.2.2.1 := by decide) : J a mi d g (pc) (v0 :: v1 :: v2 :: v3 :: v4 :: v5 :: v6 :: v7 :: v8 :: v9 :: w :: L) (.int x :: st) (S) := by
  intro p l e R s m args below meth c D H locs ls C hl hP hS
  exact lv_istore C.1 C.2.1 hd hl hn rfl (fun ls' hl' => k p l e R s m args below meth c D H locs ls' C (lx_of1 (L := v0 :: v1 :: v2 :: v3 :: v4 :: v5 :: v6 :: v7 :: v8 :: v9 :: w :: L) (i := 10) (x := .int x) (fun w _ q => by cases q; exact hc) hl') hP hS)
theorem j_iinc10 {v0 v1 v2 v3 v4 v5 v6 v7 v8 v9 : Value} {x : Int32} {n : Int} (y : Int32) (hd : decode mi.2.1 pc = .ok (.iinc 10 n, 3)) (hy : x + Int32.ofInt n = y) (hc : v9.category = 1 := by rfl) (k : J a mi d g (pc + 3) (v0 :: v1 :: v2 :: v3 :: v4 :: v5 :: v6 :: v7 :: v8 :: v9 :: .int y :: L) (st) (S)) (hn : 10 < mi.2.2.1 := by decide) : J a mi d g (pc) (v0 :: v1 :: v2 :: v3 :: v4 :: v5 :: v6 :: v7 :: v8 :: v9 :: .int x :: L) (st) (S) := by
  intro p l e R s m args below meth c D H locs ls C hl hP hS
  obtain ⟨q, hq⟩ := lx_ix hl (i := 10) (v := .int x) (by simp) rfl
  exact lv_iinc C.1 C.2.1 hd hl hq hy hn rfl (fun ls' hl' => k p l e R s m args below meth c D H locs ls' C (lx_of1 (L := v0 :: v1 :: v2 :: v3 :: v4 :: v5 :: v6 :: v7 :: v8 :: v9 :: .int x :: L) (i := 10) (x := .int y) (fun w _ q => by cases q; exact hc) hl') hP hS)
theorem j_lld10 {v0 v1 v2 v3 v4 v5 v6 v7 v8 v9 : Value} {x : Int64} (hd : decode mi.2.1 pc = .ok (.lload 10, 2)) (k : J a mi d g (pc + 2) (v0 :: v1 :: v2 :: v3 :: v4 :: v5 :: v6 :: v7 :: v8 :: v9 :: .long x :: L) (.long x :: st) (S)) : J a mi d g (pc) (v0 :: v1 :: v2 :: v3 :: v4 :: v5 :: v6 :: v7 :: v8 :: v9 :: .long x :: L) (st) (S) := by
  intro p l e R s m args below meth c D H locs ls C hl hP hS
  exact lv_lload C.1 C.2.1 hd (lx_at hl (i := 10) (v := .long x) (by simp) rfl) (k p l e R s m args below meth c D H locs ls C hl hP hS)
theorem j_lst10 {v0 v1 v2 v3 v4 v5 v6 v7 v8 v9 : Value} {w z : Value} {x : Int64} (hd : decode mi.2.1 pc = .ok (.lstore 10, 2)) (hc : v9.category = 1 := by rfl) (k : J a mi d g (pc + 2) (v0 :: v1 :: v2 :: v3 :: v4 :: v5 :: v6 :: v7 :: v8 :: v9 :: .long x :: .null :: L) (st) (S)) (hn : 10 + 1 < mi.2.2.1 := by decide) : J a mi d g (pc) (v0 :: v1 :: v2 :: v3 :: v4 :: v5 :: v6 :: v7 :: v8 :: v9 :: w :: z :: L) (.long x :: st) (S) := by
  intro p l e R s m args below meth c D H locs ls C hl hP hS
  exact lv_lstore C.1 C.2.1 hd hl hn rfl (fun ls' hl' => k p l e R s m args below meth c D H locs ls' C (lx_of2 (L := v0 :: v1 :: v2 :: v3 :: v4 :: v5 :: v6 :: v7 :: v8 :: v9 :: w :: z :: L) (i := 10) (x := .long x) (fun w _ q => by cases q; exact hc) hl') hP hS)
theorem j_ald10 {v0 v1 v2 v3 v4 v5 v6 v7 v8 v9 : Value} {x : Nat} (hd : decode mi.2.1 pc = .ok (.aload 10, 2)) (k : J a mi d g (pc + 2) (v0 :: v1 :: v2 :: v3 :: v4 :: v5 :: v6 :: v7 :: v8 :: v9 :: .ref x :: L) (.ref x :: st) (S)) : J a mi d g (pc) (v0 :: v1 :: v2 :: v3 :: v4 :: v5 :: v6 :: v7 :: v8 :: v9 :: .ref x :: L) (st) (S) := by
  intro p l e R s m args below meth c D H locs ls C hl hP hS
  exact lv_aload C.1 C.2.1 hd (lx_at hl (i := 10) (v := .ref x) (by simp) rfl) (k p l e R s m args below meth c D H locs ls C hl hP hS)
theorem j_ast10 {v0 v1 v2 v3 v4 v5 v6 v7 v8 v9 : Value} {w : Value} {x : Nat} (hd : decode mi.2.1 pc = .ok (.astore 10, 2)) (hc : v9.category = 1 := by rfl) (k : J a mi d g (pc + 2) (v0 :: v1 :: v2 :: v3 :: v4 :: v5 :: v6 :: v7 :: v8 :: v9 :: .ref x :: L) (st) (S)) (hn : 10 < mi.2.2.1 := by decide) : J a mi d g (pc) (v0 :: v1 :: v2 :: v3 :: v4 :: v5 :: v6 :: v7 :: v8 :: v9 :: w :: L) (.ref x :: st) (S) := by
  intro p l e R s m args below meth c D H locs ls C hl hP hS
  exact lv_astore C.1 C.2.1 hd hl hn rfl (fun ls' hl' => k p l e R s m args below meth c D H locs ls' C (lx_of1 (L := v0 :: v1 :: v2 :: v3 :: v4 :: v5 :: v6 :: v7 :: v8 :: v9 :: w :: L) (i := 10) (x := .ref x) (fun w _ q => by cases q; exact hc) hl') hP hS)
theorem j_ild11 {v0 v1 v2 v3 v4 v5 v6 v7 v8 v9 v10 : Value} {x : Int32} (hd : decode mi.2.1 pc = .ok (.iload 11, 2)) (k : J a mi d g (pc + 2) (v0 :: v1 :: v2 :: v3 :: v4 :: v5 :: v6 :: v7 :: v8 :: v9 :: v10 :: .int x :: L) (.int x :: st) (S)) : J a mi d g (pc) (v0 :: v1 :: v2 :: v3 :: v4 :: v5 :: v6 :: v7 :: v8 :: v9 :: v10 :: .int x :: L) (st) (S) := by
  intro p l e R s m args below meth c D H locs ls C hl hP hS
  exact lv_iload C.1 C.2.1 hd (lx_at hl (i := 11) (v := .int x) (by simp) rfl) (k p l e R s m args below meth c D H locs ls C hl hP hS)
theorem j_ist11 {v0 v1 v2 v3 v4 v5 v6 v7 v8 v9 v10 : Value} {w : Value} {x : Int32} (hd : decode mi.2.1 pc = .ok (.istore 11, 2)) (hc : v10.category = 1 := by rfl) (k : J a mi d g (pc + 2) (v0 :: v1 :: v2 :: v3 :: v4 :: v5 :: v6 :: v7 :: v8 :: v9 :: v10 :: .int x :: L) (st) (S)) (hn : 11 < mi.2.2.1 := by decide) : J a mi d g (pc) (v0 :: v1 :: v2 :: v3 :: v4 :: v5 :: v6 :: v7 :: v8 :: v9 :: v10 :: w :: L) (.int x :: st) (S) := by
  intro p l e R s m args below meth c D H locs ls C hl hP hS
  exact lv_istore C.1 C.2.1 hd hl hn rfl (fun ls' hl' => k p l e R s m args below meth c D H locs ls' C (lx_of1 (L := v0 :: v1 :: v2 :: v3 :: v4 :: v5 :: v6 :: v7 :: v8 :: v9 :: v10 :: w :: L) (i := 11) (x := .int x) (fun w _ q => by cases q; exact hc) hl') hP hS)
theorem j_iinc11 {v0 v1 v2 v3 v4 v5 v6 v7 v8 v9 v10 : Value} {x : Int32} {n : Int} (y : Int32) (hd : decode mi.2.1 pc = .ok (.iinc 11 n, 3)) (hy : x + Int32.ofInt n = y) (hc : v10.category = 1 := by rfl) (k : J a mi d g (pc + 3) (v0 :: v1 :: v2 :: v3 :: v4 :: v5 :: v6 :: v7 :: v8 :: v9 :: v10 :: .int y :: L) (st) (S)) (hn : 11 < mi.2.2.1 := by decide) : J a mi d g (pc) (v0 :: v1 :: v2 :: v3 :: v4 :: v5 :: v6 :: v7 :: v8 :: v9 :: v10 :: .int x :: L) (st) (S) := by
  intro p l e R s m args below meth c D H locs ls C hl hP hS
  obtain ⟨q, hq⟩ := lx_ix hl (i := 11) (v := .int x) (by simp) rfl
  exact lv_iinc C.1 C.2.1 hd hl hq hy hn rfl (fun ls' hl' => k p l e R s m args below meth c D H locs ls' C (lx_of1 (L := v0 :: v1 :: v2 :: v3 :: v4 :: v5 :: v6 :: v7 :: v8 :: v9 :: v10 :: .int x :: L) (i := 11) (x := .int y) (fun w _ q => by cases q; exact hc) hl') hP hS)
theorem j_lld11 {v0 v1 v2 v3 v4 v5 v6 v7 v8 v9 v10 : Value} {x : Int64} (hd : decode mi.2.1 pc = .ok (.lload 11, 2)) (k : J a mi d g (pc + 2) (v0 :: v1 :: v2 :: v3 :: v4 :: v5 :: v6 :: v7 :: v8 :: v9 :: v10 :: .long x :: L) (.long x :: st) (S)) : J a mi d g (pc) (v0 :: v1 :: v2 :: v3 :: v4 :: v5 :: v6 :: v7 :: v8 :: v9 :: v10 :: .long x :: L) (st) (S) := by
  intro p l e R s m args below meth c D H locs ls C hl hP hS
  exact lv_lload C.1 C.2.1 hd (lx_at hl (i := 11) (v := .long x) (by simp) rfl) (k p l e R s m args below meth c D H locs ls C hl hP hS)
theorem j_lst11 {v0 v1 v2 v3 v4 v5 v6 v7 v8 v9 v10 : Value} {w z : Value} {x : Int64} (hd : decode mi.2.1 pc = .ok (.lstore 11, 2)) (hc : v10.category = 1 := by rfl) (k : J a mi d g (pc + 2) (v0 :: v1 :: v2 :: v3 :: v4 :: v5 :: v6 :: v7 :: v8 :: v9 :: v10 :: .long x :: .null :: L) (st) (S)) (hn : 11 + 1 < mi.2.2.1 := by decide) : J a mi d g (pc) (v0 :: v1 :: v2 :: v3 :: v4 :: v5 :: v6 :: v7 :: v8 :: v9 :: v10 :: w :: z :: L) (.long x :: st) (S) := by
  intro p l e R s m args below meth c D H locs ls C hl hP hS
  exact lv_lstore C.1 C.2.1 hd hl hn rfl (fun ls' hl' => k p l e R s m args below meth c D H locs ls' C (lx_of2 (L := v0 :: v1 :: v2 :: v3 :: v4 :: v5 :: v6 :: v7 :: v8 :: v9 :: v10 :: w :: z :: L) (i := 11) (x := .long x) (fun w _ q => by cases q; exact hc) hl') hP hS)
theorem j_ald11 {v0 v1 v2 v3 v4 v5 v6 v7 v8 v9 v10 : Value} {x : Nat} (hd : decode mi.2.1 pc = .ok (.aload 11, 2)) (k : J a mi d g (pc + 2) (v0 :: v1 :: v2 :: v3 :: v4 :: v5 :: v6 :: v7 :: v8 :: v9 :: v10 :: .ref x :: L) (.ref x :: st) (S)) : J a mi d g (pc) (v0 :: v1 :: v2 :: v3 :: v4 :: v5 :: v6 :: v7 :: v8 :: v9 :: v10 :: .ref x :: L) (st) (S) := by
  intro p l e R s m args below meth c D H locs ls C hl hP hS
  exact lv_aload C.1 C.2.1 hd (lx_at hl (i := 11) (v := .ref x) (by simp) rfl) (k p l e R s m args below meth c D H locs ls C hl hP hS)
theorem j_ast11 {v0 v1 v2 v3 v4 v5 v6 v7 v8 v9 v10 : Value} {w : Value} {x : Nat} (hd : decode mi.2.1 pc = .ok (.astore 11, 2)) (hc : v10.category = 1 := by rfl) (k : J a mi d g (pc + 2) (v0 :: v1 :: v2 :: v3 :: v4 :: v5 :: v6 :: v7 :: v8 :: v9 :: v10 :: .ref x :: L) (st) (S)) (hn : 11 < mi.2.2.1 := by decide) : J a mi d g (pc) (v0 :: v1 :: v2 :: v3 :: v4 :: v5 :: v6 :: v7 :: v8 :: v9 :: v10 :: w :: L) (.ref x :: st) (S) := by
  intro p l e R s m args below meth c D H locs ls C hl hP hS
  exact lv_astore C.1 C.2.1 hd hl hn rfl (fun ls' hl' => k p l e R s m args below meth c D H locs ls' C (lx_of1 (L := v0 :: v1 :: v2 :: v3 :: v4 :: v5 :: v6 :: v7 :: v8 :: v9 :: v10 :: w :: L) (i := 11) (x := .ref x) (fun w _ q => by cases q; exact hc) hl') hP hS)
theorem j_ild12 {v0 v1 v2 v3 v4 v5 v6 v7 v8 v9 v10 v11 : Value} {x : Int32} (hd : decode mi.2.1 pc = .ok (.iload 12, 2)) (k : J a mi d g (pc + 2) (v0 :: v1 :: v2 :: v3 :: v4 :: v5 :: v6 :: v7 :: v8 :: v9 :: v10 :: v11 :: .int x :: L) (.int x :: st) (S)) : J a mi d g (pc) (v0 :: v1 :: v2 :: v3 :: v4 :: v5 :: v6 :: v7 :: v8 :: v9 :: v10 :: v11 :: .int x :: L) (st) (S) := by
  intro p l e R s m args below meth c D H locs ls C hl hP hS
  exact lv_iload C.1 C.2.1 hd (lx_at hl (i := 12) (v := .int x) (by simp) rfl) (k p l e R s m args below meth c D H locs ls C hl hP hS)
theorem j_ist12 {v0 v1 v2 v3 v4 v5 v6 v7 v8 v9 v10 v11 : Value} {w : Value} {x : Int32} (hd : decode mi.2.1 pc = .ok (.istore 12, 2)) (hc : v11.category = 1 := by rfl) (k : J a mi d g (pc + 2) (v0 :: v1 :: v2 :: v3 :: v4 :: v5 :: v6 :: v7 :: v8 :: v9 :: v10 :: v11 :: .int x :: L) (st) (S)) (hn : 12 < mi.2.2.1 := by decide) : J a mi d g (pc) (v0 :: v1 :: v2 :: v3 :: v4 :: v5 :: v6 :: v7 :: v8 :: v9 :: v10 :: v11 :: w :: L) (.int x :: st) (S) := by
  intro p l e R s m args below meth c D H locs ls C hl hP hS
  exact lv_istore C.1 C.2.1 hd hl hn rfl (fun ls' hl' => k p l e R s m args below meth c D H locs ls' C (lx_of1 (L := v0 :: v1 :: v2 :: v3 :: v4 :: v5 :: v6 :: v7 :: v8 :: v9 :: v10 :: v11 :: w :: L) (i := 12) (x := .int x) (fun w _ q => by cases q; exact hc) hl') hP hS)
theorem j_iinc12 {v0 v1 v2 v3 v4 v5 v6 v7 v8 v9 v10 v11 : Value} {x : Int32} {n : Int} (y : Int32) (hd : decode mi.2.1 pc = .ok (.iinc 12 n, 3)) (hy : x + Int32.ofInt n = y) (hc : v11.category = 1 := by rfl) (k : J a mi d g (pc + 3) (v0 :: v1 :: v2 :: v3 :: v4 :: v5 :: v6 :: v7 :: v8 :: v9 :: v10 :: v11 :: .int y :: L) (st) (S)) (hn : 12 < mi.2.2.1 := by decide) : J a mi d g (pc) (v0 :: v1 :: v2 :: v3 :: v4 :: v5 :: v6 :: v7 :: v8 :: v9 :: v10 :: v11 :: .int x :: L) (st) (S) := by
  intro p l e R s m args below meth c D H locs ls C hl hP hS
  obtain ⟨q, hq⟩ := lx_ix hl (i := 12) (v := .int x) (by simp) rfl
  exact lv_iinc C.1 C.2.1 hd hl hq hy hn rfl (fun ls' hl' => k p l e R s m args below meth c D H locs ls' C (lx_of1 (L := v0 :: v1 :: v2 :: v3 :: v4 :: v5 :: v6 :: v7 :: v8 :: v9 :: v10 :: v11 :: .int x :: L) (i := 12) (x := .int y) (fun w _ q => by cases q; exact hc) hl') hP hS)
theorem j_lld12 {v0 v1 v2 v3 v4 v5 v6 v7 v8 v9 v10 v11 : Value} {x : Int64} (hd : decode mi.2.1 pc = .ok (.lload 12, 2)) (k : J a mi d g (pc + 2) (v0 :: v1 :: v2 :: v3 :: v4 :: v5 :: v6 :: v7 :: v8 :: v9 :: v10 :: v11 :: .long x :: L) (.long x :: st) (S)) : J a mi d g (pc) (v0 :: v1 :: v2 :: v3 :: v4 :: v5 :: v6 :: v7 :: v8 :: v9 :: v10 :: v11 :: .long x :: L) (st) (S) := by
  intro p l e R s m args below meth c D H locs ls C hl hP hS
  exact lv_lload C.1 C.2.1 hd (lx_at hl (i := 12) (v := .long x) (by simp) rfl) (k p l e R s m args below meth c D H locs ls C hl hP hS)
theorem j_lst12 {v0 v1 v2 v3 v4 v5 v6 v7 v8 v9 v10 v11 : Value} {w z : Value} {x : Int64} (hd : decode mi.2.1 pc = .ok (.lstore 12, 2)) (hc : v11.category = 1 := by rfl) (k : J a mi d g (pc + 2) (v0 :: v1 :: v2 :: v3 :: v4 :: v5 :: v6 :: v7 :: v8 :: v9 :: v10 :: v11 :: .long x :: .null :: L) (st) (S)) (hn : 12 + 1 < mi.2.2.1 := by decide) : J a mi d g (pc) (v0 :: v1 :: v2 :: v3 :: v4 :: v5 :: v6 :: v7 :: v8 :: v9 :: v10 :: v11 :: w :: z :: L) (.long x :: st) (S) := by
  intro p l e R s m args below meth c D H locs ls C hl hP hS
  exact lv_lstore C.1 C.2.1 hd hl hn rfl (fun ls' hl' => k p l e R s m args below meth c D H locs ls' C (lx_of2 (L := v0 :: v1 :: v2 :: v3 :: v4 :: v5 :: v6 :: v7 :: v8 :: v9 :: v10 :: v11 :: w :: z :: L) (i := 12) (x := .long x) (fun w _ q => by cases q; exact hc) hl') hP hS)
theorem j_ald12 {v0 v1 v2 v3 v4 v5 v6 v7 v8 v9 v10 v11 : Value} {x : Nat} (hd : decode mi.2.1 pc = .ok (.aload 12, 2)) (k : J a mi d g (pc + 2) (v0 :: v1 :: v2 :: v3 :: v4 :: v5 :: v6 :: v7 :: v8 :: v9 :: v10 :: v11 :: .ref x :: L) (.ref x :: st) (S)) : J a mi d g (pc) (v0 :: v1 :: v2 :: v3 :: v4 :: v5 :: v6 :: v7 :: v8 :: v9 :: v10 :: v11 :: .ref x :: L) (st) (S) := by
  intro p l e R s m args below meth c D H locs ls C hl hP hS
  exact lv_aload C.1 C.2.1 hd (lx_at hl (i := 12) (v := .ref x) (by simp) rfl) (k p l e R s m args below meth c D H locs ls C hl hP hS)
theorem j_ast12 {v0 v1 v2 v3 v4 v5 v6 v7 v8 v9 v10 v11 : Value} {w : Value} {x : Nat} (hd : decode mi.2.1 pc = .ok (.astore 12, 2)) (hc : v11.category = 1 := by rfl) (k : J a mi d g (pc + 2) (v0 :: v1 :: v2 :: v3 :: v4 :: v5 :: v6 :: v7 :: v8 :: v9 :: v10 :: v11 :: .ref x :: L) (st) (S)) (hn : 12 < mi.2.2.1 := by decide) : J a mi d g (pc) (v0 :: v1 :: v2 :: v3 :: v4 :: v5 :: v6 :: v7 :: v8 :: v9 :: v10 :: v11 :: w :: L) (.ref x :: st) (S) := by
  intro p l e R s m args below meth c D H locs ls C hl hP hS
  exact lv_astore C.1 C.2.1 hd hl hn rfl (fun ls' hl' => k p l e R s m args below meth c D H locs ls' C (lx_of1 (L := v0 :: v1 :: v2 :: v3 :: v4 :: v5 :: v6 :: v7 :: v8 :: v9 :: v10 :: v11 :: w :: L) (i := 12) (x := .ref x) (fun w _ q => by cases q; exact hc) hl') hP hS)
theorem j_ild13 {v0 v1 v2 v3 v4 v5 v6 v7 v8 v9 v10 v11 v12 : Value} {x : Int32} (hd : decode mi.2.1 pc = .ok (.iload 13, 2)) (k : J a mi d g (pc + 2) (v0 :: v1 :: v2 :: v3 :: v4 :: v5 :: v6 :: v7 :: v8 :: v9 :: v10 :: v11 :: v12 :: .int x :: L) (.int x :: st) (S)) : J a mi d g (pc) (v0 :: v1 :: v2 :: v3 :: v4 :: v5 :: v6 :: v7 :: v8 :: v9 :: v10 :: v11 :: v12 :: .int x :: L) (st) (S) := by
  intro p l e R s m args below meth c D H locs ls C hl hP hS
  exact lv_iload C.1 C.2.1 hd (lx_at hl (i := 13) (v := .int x) (by simp) rfl) (k p l e R s m args below meth c D H locs ls C hl hP hS)
theorem j_ist13 {v0 v1 v2 v3 v4 v5 v6 v7 v8 v9 v10 v11 v12 : Value} {w : Value} {x : Int32} (hd : decode mi.2.1 pc = .ok (.istore 13, 2)) (hc : v12.category = 1 := by rfl) (k : J a mi d g (pc + 2) (v0 :: v1 :: v2 :: v3 :: v4 :: v5 :: v6 :: v7 :: v8 :: v9 :: v10 :: v11 :: v12 :: .int x :: L) (st) (S)) (hn : 13 < mi.2.2.1 := by decide) : J a mi d g (pc) (v0 :: v1 :: v2 :: v3 :: v4 :: v5 :: v6 :: v7 :: v8 :: v9 :: v10 :: v11 :: v12 :: w :: L) (.int x :: st) (S) := by
  intro p l e R s m args below meth c D H locs ls C hl hP hS
  exact lv_istore C.1 C.2.1 hd hl hn rfl (fun ls' hl' => k p l e R s m args below meth c D H locs ls' C (lx_of1 (L := v0 :: v1 :: v2 :: v3 :: v4 :: v5 :: v6 :: v7 :: v8 :: v9 :: v10 :: v11 :: v12 :: w :: L) (i := 13) (x := .int x) (fun w _ q => by cases q; exact hc) hl') hP hS)
theorem j_iinc13 {v0 v1 v2 v3 v4 v5 v6 v7 v8 v9 v10 v11 v12 : Value} {x : Int32} {n : Int} (y : Int32) (hd : decode mi.2.1 pc = .ok (.iinc 13 n, 3)) (hy : x + Int32.ofInt n = y) (hc : v12.category = 1 := by rfl) (k : J a mi d g (pc + 3) (v0 :: v1 :: v2 :: v3 :: v4 :: v5 :: v6 :: v7 :: v8 :: v9 :: v10 :: v11 :: v12 :: .int y :: L) (st) (S)) (hn : 13 < mi.2.2.1 := by decide) : J a mi d g (pc) (v0 :: v1 :: v2 :: v3 :: v4 :: v5 :: v6 :: v7 :: v8 :: v9 :: v10 :: v11 :: v12 :: .int x :: L) (st) (S) := by
  intro p l e R s m args below meth c D H locs ls C hl hP hS
  obtain ⟨q, hq⟩ := lx_ix hl (i := 13) (v := .int x) (by simp) rfl
  exact lv_iinc C.1 C.2.1 hd hl hq hy hn rfl (fun ls' hl' => k p l e R s m args below meth c D H locs ls' C (lx_of1 (L := v0 :: v1 :: v2 :: v3 :: v4 :: v5 :: v6 :: v7 :: v8 :: v9 :: v10 :: v11 :: v12 :: .int x :: L) (i := 13) (x := .int y) (fun w _ q => by cases q; exact hc) hl') hP hS)
theorem j_lld13 {v0 v1 v2 v3 v4 v5 v6 v7 v8 v9 v10 v11 v12 : Value} {x : Int64} (hd : decode mi.2.1 pc = .ok (.lload 13, 2)) (k : J a mi d g (pc + 2) (v0 :: v1 :: v2 :: v3 :: v4 :: v5 :: v6 :: v7 :: v8 :: v9 :: v10 :: v11 :: v12 :: .long x :: L) (.long x :: st) (S)) : J a mi d g (pc) (v0 :: v1 :: v2 :: v3 :: v4 :: v5 :: v6 :: v7 :: v8 :: v9 :: v10 :: v11 :: v12 :: .long x :: L) (st) (S) := by
  intro p l e R s m args below meth c D H locs ls C hl hP hS
  exact lv_lload C.1 C.2.1 hd (lx_at hl (i := 13) (v := .long x) (by simp) rfl) (k p l e R s m args below meth c D H locs ls C hl hP hS)
theorem j_lst13 {v0 v1 v2 v3 v4 v5 v6 v7 v8 v9 v10 v11 v12 : Value} {w z : Value} {x : Int64} (hd : decode mi.2.1 pc = .ok (.lstore 13, 2)) (hc : v12.category = 1 := by rfl) (k : J a mi d g (pc + 2) (v0 :: v1 :: v2 :: v3 :: v4 :: v5 :: v6 :: v7 :: v8 :: v9 :: v10 :: v11 :: v12 :: .long x :: .null :: L) (st) (S)) (hn : 13 + 1 < mi.2.2.1 := by decide) : J a mi d g (pc) (v0 :: v1 :: v2 :: v3 :: v4 :: v5 :: v6 :: v7 :: v8 :: v9 :: v10 :: v11 :: v12 :: w :: z :: L) (.long x :: st) (S) := by
  intro p l e R s m args below meth c D H locs ls C hl hP hS
  exact lv_lstore C.1 C.2.1 hd hl hn rfl (fun ls' hl' => k p l e R s m args below meth c D H locs ls' C (lx_of2 (L := v0 :: v1 :: v2 :: v3 :: v4 :: v5 :: v6 :: v7 :: v8 :: v9 :: v10 :: v11 :: v12 :: w :: z :: L) (i := 13) (x := .long x) (fun w _ q => by cases q; exact hc) hl') hP hS)
theorem j_ald13 {v0 v1 v2 v3 v4 v5 v6 v7 v8 v9 v10 v11 v12 : Value} {x : Nat} (hd : decode mi.2.1 pc = .ok (.aload 13, 2)) (k : J a mi d g (pc + 2) (v0 :: v1 :: v2 :: v3 :: v4 :: v5 :: v6 :: v7 :: v8 :: v9 :: v10 :: v11 :: v12 :: .ref x :: L) (.ref x :: st) (S)) : J a mi d g (pc) (v0 :: v1 :: v2 :: v3 :: v4 :: v5 :: v6 :: v7 :: v8 :: v9 :: v10 :: v11 :: v12 :: .ref x :: L) (st) (S) := by
  intro p l e R s m args below meth c D H locs ls C hl hP hS
  exact lv_aload C.1 C.2.1 hd (lx_at hl (i := 13) (v := .ref x) (by simp) rfl) (k p l e R s m args below meth c D H locs ls C hl hP hS)
theorem j_ast13 {v0 v1 v2 v3 v4 v5 v6 v7 v8 v9 v10 v11 v12 : Value} {w : Value} {x : Nat} (hd : decode mi.2.1 pc = .ok (.astore 13, 2)) (hc : v12.category = 1 := by rfl) (k : J a mi d g (pc + 2) (v0 :: v1 :: v2 :: v3 :: v4 :: v5 :: v6 :: v7 :: v8 :: v9 :: v10 :: v11 :: v12 :: .ref x :: L) (st) (S)) (hn : 13 < mi.2.2.1 := by decide) : J a mi d g (pc) (v0 :: v1 :: v2 :: v3 :: v4 :: v5 :: v6 :: v7 :: v8 :: v9 :: v10 :: v11 :: v12 :: w :: L) (.ref x :: st) (S) := by
  intro p l e R s m args below meth c D H locs ls C hl hP hS
  exact lv_astore C.1 C.2.1 hd hl hn rfl (fun ls' hl' => k p l e R s m args below meth c D H locs ls' C (lx_of1 (L := v0 :: v1 :: v2 :: v3 :: v4 :: v5 :: v6 :: v7 :: v8 :: v9 :: v10 :: v11 :: v12 :: w :: L) (i := 13) (x := .ref x) (fun w _ q => by cases q; exact hc) hl') hP hS)
theorem j_ild14 {v0 v1 v2 v3 v4 v5 v6 v7 v8 v9 v10 v11 v12 v13 : Value} {x : Int32} (hd : decode mi.2.1 pc = .ok (.iload 14, 2)) (k : J a mi d g (pc + 2) (v0 :: v1 :: v2 :: v3 :: v4 :: v5 :: v6 :: v7 :: v8 :: v9 :: v10 :: v11 :: v12 :: v13 :: .int x :: L) (.int x :: st) (S)) : J a mi d g (pc) (v0 :: v1 :: v2 :: v3 :: v4 :: v5 :: v6 :: v7 :: v8 :: v9 :: v10 :: v11 :: v12 :: v13 :: .int x :: L) (st) (S) := by
  intro p l e R s m args below meth c D H locs ls C hl hP hS
  exact lv_iload C.1 C.2.1 hd (lx_at hl (i := 14) (v := .int x) (by simp) rfl) (k p l e R s m args below meth c D H locs ls C hl hP hS)
theorem j_ist14 {v0 v1 v2 v3 v4 v5 v6 v7 v8 v9 v10 v11 v12 v13 : Value} {w : Value} {x : Int32} (hd : decode mi.2.1 pc = .ok (.istore 14, 2)) (hc : v13.category = 1 := by rfl) (k : J a mi d g (pc + 2) (v0 :: v1 :: v2 :: v3 :: v4 :: v5 :: v6 :: v7 :: v8 :: v9 :: v10 :: v11 :: v12 :: v13 :: .int x :: L) (st) (S)) (hn : 14 < mi.2.2.1 := by decide) : J a mi d g (pc) (v0 :: v1 :: v2 :: v3 :: v4 :: v5 :: v6 :: v7 :: v8 :: v9 :: v10 :: v11 :: v12 :: v13 :: w :: L) (.int x :: st) (S) := by
  intro p l e R s m args below meth c D H locs ls C hl hP hS
  exact lv_istore C.1 C.2.1 hd hl hn rfl (fun ls' hl' => k p l e R s m args below meth c D H locs ls' C (lx_of1 (L := v0 :: v1 :: v2 :: v3 :: v4 :: v5 :: v6 :: v7 :: v8 :: v9 :: v10 :: v11 :: v12 :: v13 :: w :: L) (i := 14) (x := .int x) (fun w _ q => by cases q; exact hc) hl') hP hS)
theorem j_iinc14 {v0 v1 v2 v3 v4 v5 v6 v7 v8 v9 v10 v11 v12 v13 : Value} {x : Int32} {n : Int} (y : Int32) (hd : decode mi.2.1 pc = .ok (.iinc 14 n, 3)) (hy : x + Int32.ofInt n = y) (hc : v13.category = 1 := by rfl) (k : J a mi d g (pc + 3) (v0 :: v1 :: v2 :: v3 :: v4 :: v5 :: v6 :: v7 :: v8 :: v9 :: v10 :: v11 :: v12 :: v13 :: .int y :: L) (st) (S)) (hn : 14 < mi.2.2.1 := by decide) : J a mi d g (pc) (v0 :: v1 :: v2 :: v3 :: v4 :: v5 :: v6 :: v7 :: v8 :: v9 :: v10 :: v11 :: v12 :: v13 :: .int x :: L) (st) (S) := by
  intro p l e R s m args below meth c D H locs ls C hl hP hS
  obtain ⟨q, hq⟩ := lx_ix hl (i := 14) (v := .int x) (by simp) rfl
  exact lv_iinc C.1 C.2.1 hd hl hq hy hn rfl (fun ls' hl' => k p l e R s m args below meth c D H locs ls' C (lx_of1 (L := v0 :: v1 :: v2 :: v3 :: v4 :: v5 :: v6 :: v7 :: v8 :: v9 :: v10 :: v11 :: v12 :: v13 :: .int x :: L) (i := 14) (x := .int y) (fun w _ q => by cases q; exact hc) hl') hP hS)
theorem j_lld14 {v0 v1 v2 v3 v4 v5 v6 v7 v8 v9 v10 v11 v12 v13 : Value} {x : Int64} (hd : decode mi.2.1 pc = .ok (.lload 14, 2)) (k : J a mi d g (pc + 2) (v0 :: v1 :: v2 :: v3 :: v4 :: v5 :: v6 :: v7 :: v8 :: v9 :: v10 :: v11 :: v12 :: v13 :: .long x :: L) (.long x :: st) (S)) : J a mi d g (pc) (v0 :: v1 :: v2 :: v3 :: v4 :: v5 :: v6 :: v7 :: v8 :: v9 :: v10 :: v11 :: v12 :: v13 :: .long x :: L) (st) (S) := by
  intro p l e R s m args below meth c D H locs ls C hl hP hS
  exact lv_lload C.1 C.2.1 hd (lx_at hl (i := 14) (v := .long x) (by simp) rfl) (k p l e R s m args below meth c D H locs ls C hl hP hS)
theorem j_lst14 {v0 v1 v2 v3 v4 v5 v6 v7 v8 v9 v10 v11 v12 v13 : Value} {w z : Value} {x : Int64} (hd : decode mi.2.1 pc = .ok (.lstore 14, 2)) (hc : v13.category = 1 := by rfl) (k : J a mi d g (pc + 2) (v0 :: v1 :: v2 :: v3 :: v4 :: v5 :: v6 :: v7 :: v8 :: v9 :: v10 :: v11 :: v12 :: v13 :: .long x :: .null :: L) (st) (S)) (hn : 14 + 1 < mi.2.2.1 := by decide) : J a mi d g (pc) (v0 :: v1 :: v2 :: v3 :: v4 :: v5 :: v6 :: v7 :: v8 :: v9 :: v10 :: v11 :: v12 :: v13 :: w :: z :: L) (.long x :: st) (S) := by
  intro p l e R s m args below meth c D H locs ls C hl hP hS
  exact lv_lstore C.1 C.2.1 hd hl hn rfl (fun ls' hl' => k p l e R s m args below meth c D H locs ls' C (lx_of2 (L := v0 :: v1 :: v2 :: v3 :: v4 :: v5 :: v6 :: v7 :: v8 :: v9 :: v10 :: v11 :: v12 :: v13 :: w :: z :: L) (i := 14) (x := .long x) (fun w _ q => by cases q; exact hc) hl') hP hS)
theorem j_ald14 {v0 v1 v2 v3 v4 v5 v6 v7 v8 v9 v10 v11 v12 v13 : Value} {x : Nat} (hd : decode mi.2.1 pc = .ok (.aload 14, 2)) (k : J a mi d g (pc + 2) (v0 :: v1 :: v2 :: v3 :: v4 :: v5 :: v6 :: v7 :: v8 :: v9 :: v10 :: v11 :: v12 :: v13 :: .ref x :: L) (.ref x :: st) (S)) : J a mi d g (pc) (v0 :: v1 :: v2 :: v3 :: v4 :: v5 :: v6 :: v7 :: v8 :: v9 :: v10 :: v11 :: v12 :: v13 :: .ref x :: L) (st) (S) := by
  intro p l e R s m args below meth c D H locs ls C hl hP hS
  exact lv_aload C.1 C.2.1 hd (lx_at hl (i := 14) (v := .ref x) (by simp) rfl) (k p l e R s m args below meth c D H locs ls C hl hP hS)
theorem j_ast14 {v0 v1 v2 v3 v4 v5 v6 v7 v8 v9 v10 v11 v12 v13 : Value} {w : Value} {x : Nat} (hd : decode mi.2.1 pc = .ok (.astore 14, 2)) (hc : v13.category = 1 := by rfl) (k : J a mi d g (pc + 2) (v0 :: v1 :: v2 :: v3 :: v4 :: v5 :: v6 :: v7 :: v8 :: v9 :: v10 :: v11 :: v12 :: v13 :: .ref x :: L) (st) (S)) (hn : 14 < mi.2.2.1 := by decide) : J a mi d g (pc) (v0 :: v1 :: v2 :: v3 :: v4 :: v5 :: v6 :: v7 :: v8 :: v9 :: v10 :: v11 :: v12 :: v13 :: w :: L) (.ref x :: st) (S) := by
  intro p l e R s m args below meth c D H locs ls C hl hP hS
  exact lv_astore C.1 C.2.1 hd hl hn rfl (fun ls' hl' => k p l e R s m args below meth c D H locs ls' C (lx_of1 (L := v0 :: v1 :: v2 :: v3 :: v4 :: v5 :: v6 :: v7 :: v8 :: v9 :: v10 :: v11 :: v12 :: v13 :: w :: L) (i := 14) (x := .ref x) (fun w _ q => by cases q; exact hc) hl') hP hS)
/-- fewer locals -/
theorem j_less {L1 : List Value} (hs : ∀ (i : Nat) (v : Value), L1[i]? = some v → v ≠ .null → L[i]? = some v) (k : J a mi d g (pc) (L1) (st) (S)) : J a mi d g (pc) (L) (st) (S) := by
  intro p l e R s m args below meth c D H locs ls C hl hP hS
  exact k p l e R s m args below meth c D H locs ls C (lx_less hl hs) hP hS
end Rows
end
section
/-! fields, arrays, statics: one state S for all cells -/
def uI (S : St) (j k : Nat) (v : Int32) : St := (fun j' => if j' = j then upd (S.1 j) k v else S.1 j', S.2)
def uL (S : St) (j k : Nat) (v : Int64) : St := (S.1, fun j' => if j' = j then vp_updL (S.2.1 j) k v else S.2.1 j', S.2.2)
/-- a whole row -/
def sI (S : St) (j : Nat) (f : Nat → Int32) : St := (fun j' => if j' = j then f else S.1 j', S.2)
def sL (S : St) (j : Nat) (f : Nat → Int64) : St := (S.1, fun j' => if j' = j then f else S.2.1 j', S.2.2)
def uR (S : St) (k q : Nat) : St := (S.1, S.2.1, if k = 0 then (q, S.2.2.2) else (S.2.2.1, q))
theorem uI_at (S : St) (j k : Nat) (v : Int32) (j' k' : Nat) : (uI S j k v).1 j' k' = if j' = j ∧ k' = k then v else S.1 j' k' := by
  unfold uI
  by_cases h : j' = j
  · subst h
    by_cases hk : k' = k <;> simp [upd, hk]
  · simp [h]
theorem uI_2 (S : St) (j k : Nat) (v : Int32) : (uI S j k v).2 = S.2 := rfl
theorem uL_1 (S : St) (j k : Nat) (v : Int64) : (uL S j k v).1 = S.1 := rfl
theorem uL_22 (S : St) (j k : Nat) (v : Int64) : (uL S j k v).2.2 = S.2.2 := rfl
theorem uL_at (S : St) (j k : Nat) (v : Int64) (j' k' : Nat) : (uL S j k v).2.1 j' k' = if j' = j ∧ k' = k then v else S.2.1 j' k' := by
  unfold uL
  by_cases h : j' = j
  · subst h
    by_cases hk : k' = k <;> simp [vp_updL, hk]
  · simp [h]
theorem sI_at (S : St) (j : Nat) (f : Nat → Int32) (j' k' : Nat) : (sI S j f).1 j' k' = if j' = j then f k' else S.1 j' k' := by
  unfold sI
  by_cases h : j' = j <;> simp [h]
theorem sI_2 (S : St) (j : Nat) (f : Nat → Int32) : (sI S j f).2 = S.2 := rfl
theorem sL_1 (S : St) (j : Nat) (f : Nat → Int64) : (sL S j f).1 = S.1 := rfl
theorem sL_22 (S : St) (j : Nat) (f : Nat → Int64) : (sL S j f).2.2 = S.2.2 := rfl
theorem sL_at (S : St) (j : Nat) (f : Nat → Int64) (j' k' : Nat) : (sL S j f).2.1 j' k' = if j' = j then f k' else S.2.1 j' k' := by
  unfold sL
  by_cases h : j' = j <;> simp [h]
theorem uR_1 (S : St) (k q : Nat) : (uR S k q).1 = S.1 := rfl
theorem uR_21 (S : St) (k q : Nat) : (uR S k q).2.1 = S.2.1 := rfl
theorem cont_obj {D : DD} {a : Nat → Nat} {S : St} {j ci : Nat} (h : ck j = (0, ci)) : cont D a S j = .inr (ci, (List.range (nf ci)).map (fv a S j)) := by unfold cont; rw [h]; rfl
theorem cont_I {D : DD} {a : Nat → Nat} {S : St} {j n : Nat} (h : ck j = (1, n)) : cont D a S j = .inl (D.2 0, n, .inl (S.1 j)) := by unfold cont; rw [h]; rfl
theorem cont_B {D : DD} {a : Nat → Nat} {S : St} {j n : Nat} (h : ck j = (2, n)) : cont D a S j = .inl (D.2 1, n, .inl (S.1 j)) := by unfold cont; rw [h]; rfl
theorem cont_S {D : DD} {a : Nat → Nat} {S : St} {j n : Nat} (h : ck j = (3, n)) : cont D a S j = .inl (D.2 2, n, .inl (S.1 j)) := by unfold cont; rw [h]; rfl
theorem cont_L {D : DD} {a : Nat → Nat} {S : St} {j n : Nat} (h : ck j = (4, n)) : cont D a S j = .inl (D.2 3, n, .inr (.inl (S.2.1 j))) := by unfold cont; rw [h]; rfl
theorem cont_Q {D : DD} {a : Nat → Nat} {S : St} {j n : Nat} (h : ck j = (5, n)) : cont D a S j = .inl (D.2 4, n, .inr (.inr (.inr (.inr (fun k => some (a (fr S j k))))))) := by unfold cont; rw [h]; rfl
theorem cont_QI {D : DD} {a : Nat → Nat} {S : St} {j n : Nat} (h : ck j = (6, n)) : cont D a S j = .inl (D.2 5, n, .inr (.inr (.inr (.inr (fun k => some (a (fr S j k))))))) := by unfold cont; rw [h]; rfl
theorem fr_eq {S S' : St} (h : S'.2.2 = S.2.2) (j k : Nat) : fr S' j k = fr S j k := by unfold fr; rw [h]
theorem cont_congr {D : DD} {a : Nat → Nat} {S S' : St} {j : Nat} (h1 : S'.1 j = S.1 j) (h2 : S'.2.1 j = S.2.1 j) (h3 : ∀ k, fr S' j k = fr S j k) : cont D a S' j = cont D a S j := by
  have e : fv a S' j = fv a S j := by funext k; unfold fv; rw [h1, h2, h3]
  unfold cont
  rw [h1, h2, e]
  simp only [h3]
/-- the words of a class's fields lie in the tables -/
def CLk (ci : Nat) (T : u_T) : Prop := ∃ (C : String) (N : Nat), zz_Cl[ci]? = some (C, T, N) ∧ nf ci = N ∧ (∀ w ∈ u_ws C T N, w ∈ TT) ∧ (∃ ty : Nat → FieldType, (∀ k, k < N → parseFieldDescriptor (T k).2.2.1 = some (ty k)) ∧ ∀ k, k < N → (ft ci k = 0 → ty k = .int) ∧ (ft ci k = 1 → ty k = .long) ∧ (ft ci k = 2 → ∃ t, ty k = .array t)  ∧ (ft ci k = 3 → ty k = .boolean)) ∧ (∀ a, a < N → ∀ b, b < N → a ≠ b → (T a).2.1 ≠ (T b).2.1)
def FLk (mi : MI) (idx : Nat) (C n d : String) : Prop := Cond.fieldLink mi.1.cls idx C n d ∈ TT ∨ ∃ host, Cond.fieldLinkNest mi.1.cls idx C n d host ∈ NW
def MLk (mi : MI) (idx : Nat) (y : MethodName) : Prop := Cond.methodLink mi.1.cls idx y ∈ TT ∨ ∃ host, Cond.methodLinkNest mi.1.cls idx y host ∈ NW
section Heap
variable {a : Nat → Nat} {mi : MI} {d : Nat} {g : GG} {pc : Nat} {L st : List Value} {S : St}
theorem j_get {j ci k idx : Nat} {T : u_T} (hd : decode mi.2.1 pc = .ok (.getfield idx, 3)) (hl : FLk mi idx (T k).1 (T k).2.1 (T k).2.2.1) (hT : CLk ci T) (hj : ck j = (0, ci)) (hj1 : j < 100) (hk : k < nf ci) (kk : J a mi d g (pc + 3) L (fv a S j k :: st) S) : J a mi d g pc L (.ref (a j) :: st) S := by
  intro p l e R s m args below meth c D H locs ls C hl' hP hS
  obtain ⟨Cn, N, hc, hN, hw, -⟩ := hT
  have hts := C.2.2.2.2.2.2.1
  have hg := cells_get (D := D) (a := a) (S := S) hj1
  rw [cont_obj hj] at hg
  have hv : ((List.range (nf ci)).map (fv a S j))[k]? = some (fv a S j k) := by simp [List.getElem?_map, List.getElem?_range hk]
  rcases hl with hl | ⟨host, hl⟩
  · exact va_get C.1 C.2.1 hts hw C.2.2.2.2.2.1 C.2.2.2.2.2.2.2.2.1 hP j hg hc k (by omega) (hts _ hl) (fun _ h => h) hv hd (kk p l e R s m args below meth c D H locs ls C hl' hP hS)
  · exact va_getN C.1 C.2.1 hts hw C.2.2.2.2.2.1 C.2.2.2.2.2.2.2.2.1 hP j hg hc k (by omega) (va_Nw.use rfl (C.2.2.2.2.2.2.2.2.2.2.2.1 _ hl)) (fun _ h => h) hv hd (kk p l e R s m args below meth c D H locs ls C hl' hP hS)
theorem j_getI {j ci k idx : Nat} {T : u_T} (hd : decode mi.2.1 pc = .ok (.getfield idx, 3)) (hl : FLk mi idx (T k).1 (T k).2.1 (T k).2.2.1) (hT : CLk ci T) (hj : ck j = (0, ci)) (hj1 : j < 100) (hk : k < nf ci) (hf : ft ci k = 0 ∨ ft ci k = 3) (kk : J a mi d g (pc + 3) L (.int (S.1 j k) :: st) S) : J a mi d g pc L (.ref (a j) :: st) S := by
  refine j_get hd hl hT hj hj1 hk ?_
  have e : fv a S j k = .int (S.1 j k) := by
    unfold fv
    rw [show ft (ck j).2 k = ft ci k by rw [hj]]
    rcases hf with h | h <;> (rw [h]; rfl)
  rw [e]
  exact kk
theorem j_getL {j ci k idx : Nat} {T : u_T} (hd : decode mi.2.1 pc = .ok (.getfield idx, 3)) (hl : FLk mi idx (T k).1 (T k).2.1 (T k).2.2.1) (hT : CLk ci T) (hj : ck j = (0, ci)) (hj1 : j < 100) (hk : k < nf ci) (hf : ft ci k = 1) (kk : J a mi d g (pc + 3) L (.long (S.2.1 j k) :: st) S) : J a mi d g pc L (.ref (a j) :: st) S := by
  refine j_get hd hl hT hj hj1 hk ?_
  have e : fv a S j k = .long (S.2.1 j k) := by
    unfold fv
    rw [show ft (ck j).2 k = ft ci k by rw [hj], hf]
    rfl
  rw [e]
  exact kk
theorem j_getR {j ci k idx : Nat} {T : u_T} (q : Nat) (hd : decode mi.2.1 pc = .ok (.getfield idx, 3)) (hl : FLk mi idx (T k).1 (T k).2.1 (T k).2.2.1) (hT : CLk ci T) (hj : ck j = (0, ci)) (hj1 : j < 100) (hk : k < nf ci) (hf : ft ci k = 2) (hq : fr S j k = q) (kk : J a mi d g (pc + 3) L (.ref (a q) :: st) S) : J a mi d g pc L (.ref (a j) :: st) S := by
  refine j_get hd hl hT hj hj1 hk ?_
  have e : fv a S j k = .ref (a q) := by
    unfold fv
    rw [show ft (ck j).2 k = ft ci k by rw [hj], hf, hq]
    rfl
  rw [e]
  exact kk
theorem range_set {α : Type} {f f' : Nat → α} {n k : Nat} {v : α} (h : ∀ i, i ≠ k → f' i = f i) (hv : f' k = v) : ((List.range n).map f).set k v = (List.range n).map f' := by
  apply List.ext_getElem?
  intro i
  by_cases hi : i < n
  · by_cases e : k = i
    · subst e
      rw [List.getElem?_set_self (by simpa using hi)]
      simp [List.getElem?_map, List.getElem?_range hi, hv]
    · rw [List.getElem?_set_ne e]
      simp [List.getElem?_map, List.getElem?_range hi, h i (fun q => e q.symm)]
  · rw [List.getElem?_eq_none (by simpa using hi), List.getElem?_eq_none (by simpa using hi)]
/-- a field becomes v: the state becomes S' -/
theorem j_put {j ci k idx : Nat} {T : u_T} {v : Value} {S' : St} (hd : decode mi.2.1 pc = .ok (.putfield idx, 3)) (hl : FLk mi idx (T k).1 (T k).2.1 (T k).2.2.1) (hT : CLk ci T) (hj : ck j = (0, ci)) (hj1 : j < 100) (hk : k < nf ci) (hfin : (T k).2.2.2 = false) {ty : FieldType} (hty : parseFieldDescriptor (T k).2.2.1 = some ty) (hn : narrow ty v = v) (hfit : fits ty v = true)
    (h1 : ∀ (D : DD) (i : Nat), i ≠ j → cont D a S' i = cont D a S i) (h2 : ∀ i, i ≠ k → fv a S' j i = fv a S j i) (h3 : fv a S' j k = v) (kk : J a mi d g (pc + 3) L st S') : J a mi d g pc L (v :: .ref (a j) :: st) S := by
  intro p l e R s m args below meth c D H locs ls C hl' hP hS
  obtain ⟨Cn, N, hc, hN, hw, ⟨tys, ht, -⟩, hnm⟩ := hT
  have hts := C.2.2.2.2.2.2.1
  have hg := cells_get (D := D) (a := a) (S := S) hj1
  rw [cont_obj hj] at hg
  have hset : (cells D a S).set j (a j, .inr (ci, ((List.range (nf ci)).map (fv a S j)).set k v)) = cells D a S' := by
    refine cells_set (fun i hi => h1 D i hi) ?_
    rw [cont_obj hj, range_set h2 h3]
  have hlen : k < ((List.range (nf ci)).map (fv a S j)).length := by simpa using hk
  rcases hl with hl | ⟨host, hl⟩
  · refine va_put C.1 C.2.1 hts hw tys ht hnm C.2.2.2.2.2.1 C.2.2.2.2.2.2.2.2.1 hP (cells_D C.2.2.2.2.2.2.2.2.2.1) hS j hg hc k (by omega) (hts _ hl) (fun _ h => h) hfin hty hn hfit hlen hd (fun H1 locs1 hP1 hD1 hS1 => ?_)
    rw [hset] at hP1
    exact kk p l e R s m args below meth c D H1 locs1 ls C hl' hP1 hS1
  · refine va_putN C.1 C.2.1 hts hw tys ht hnm C.2.2.2.2.2.1 C.2.2.2.2.2.2.2.2.1 hP (cells_D C.2.2.2.2.2.2.2.2.2.1) hS j hg hc k (by omega) (va_Nw.use rfl (C.2.2.2.2.2.2.2.2.2.2.2.1 _ hl)) (fun _ h => h) hfin hty hn hfit hlen hd (fun H1 locs1 hP1 hD1 hS1 => ?_)
    rw [hset] at hP1
    exact kk p l e R s m args below meth c D H1 locs1 ls C hl' hP1 hS1
theorem uI_cont {D : DD} {j k i : Nat} {v : Int32} (h : i ≠ j) : cont D a (uI S j k v) i = cont D a S i := cont_congr (by unfold uI; simp [h]) rfl (fun _ => rfl)
theorem uL_cont {D : DD} {j k i : Nat} {v : Int64} (h : i ≠ j) : cont D a (uL S j k v) i = cont D a S i := cont_congr rfl (by unfold uL; simp [h]) (fun _ => rfl)
theorem sI_cont {D : DD} {j i : Nat} {f : Nat → Int32} (h : i ≠ j) : cont D a (sI S j f) i = cont D a S i := cont_congr (by unfold sI; simp [h]) rfl (fun _ => rfl)
theorem sL_cont {D : DD} {j i : Nat} {f : Nat → Int64} (h : i ≠ j) : cont D a (sL S j f) i = cont D a S i := cont_congr rfl (by unfold sL; simp [h]) (fun _ => rfl)
theorem j_putI {j ci k idx : Nat} {T : u_T} {v : Int32} (hd : decode mi.2.1 pc = .ok (.putfield idx, 3)) (hl : FLk mi idx (T k).1 (T k).2.1 (T k).2.2.1) (hT : CLk ci T) (hj : ck j = (0, ci)) (hj1 : j < 100) (hk : k < nf ci) (hf : ft ci k = 0) (hfin : (T k).2.2.2 = false) (kk : J a mi d g (pc + 3) L st (uI S j k v)) : J a mi d g pc L (.int v :: .ref (a j) :: st) S := by
  obtain ⟨Cn, N, hc, hN, hw, ⟨tys, ht, hty⟩, hnm⟩ := hT
  have e1 := ht k (by omega)
  have e2 := (hty k (by omega)).1 hf
  rw [e2] at e1
  refine j_put hd hl ⟨Cn, N, hc, hN, hw, ⟨tys, ht, hty⟩, hnm⟩ hj hj1 hk hfin e1 rfl rfl (fun D i hi => uI_cont hi) (fun i hi => ?_) ?_ kk
  · unfold fv
    rw [uI_at, uI_2]
    simp only [hi, and_false, if_false]
    rfl
  · unfold fv
    rw [show ft (ck j).2 k = ft ci k by rw [hj], hf, uI_at]
    simp
theorem j_putZ {j ci k idx : Nat} {T : u_T} {v : Int32} (hv : v = 0 ∨ v = 1) (hd : decode mi.2.1 pc = .ok (.putfield idx, 3)) (hl : FLk mi idx (T k).1 (T k).2.1 (T k).2.2.1) (hT : CLk ci T) (hj : ck j = (0, ci)) (hj1 : j < 100) (hk : k < nf ci) (hf : ft ci k = 3) (hfin : (T k).2.2.2 = false) (kk : J a mi d g (pc + 3) L st (uI S j k v)) : J a mi d g pc L (.int v :: .ref (a j) :: st) S := by
  obtain ⟨Cn, N, hc, hN, hw, ⟨tys, ht, hty⟩, hnm⟩ := hT
  have e1 := ht k (by omega)
  have e2 := (hty k (by omega)).2.2.2 hf
  rw [e2] at e1
  refine j_put hd hl ⟨Cn, N, hc, hN, hw, ⟨tys, ht, hty⟩, hnm⟩ hj hj1 hk hfin e1 (by rcases hv with rfl | rfl <;> rfl) (by rcases hv with rfl | rfl <;> rfl) (fun D i hi => uI_cont hi) (fun i hi => ?_) ?_ kk
  · unfold fv
    rw [uI_at, uI_2]
    simp only [hi, and_false, if_false]
    rfl
  · unfold fv
    rw [show ft (ck j).2 k = ft ci k by rw [hj], hf, uI_at]
    simp
theorem j_putL {j ci k idx : Nat} {T : u_T} {v : Int64} (hd : decode mi.2.1 pc = .ok (.putfield idx, 3)) (hl : FLk mi idx (T k).1 (T k).2.1 (T k).2.2.1) (hT : CLk ci T) (hj : ck j = (0, ci)) (hj1 : j < 100) (hk : k < nf ci) (hf : ft ci k = 1) (hfin : (T k).2.2.2 = false) (kk : J a mi d g (pc + 3) L st (uL S j k v)) : J a mi d g pc L (.long v :: .ref (a j) :: st) S := by
  obtain ⟨Cn, N, hc, hN, hw, ⟨tys, ht, hty⟩, hnm⟩ := hT
  have e1 := ht k (by omega)
  have e2 := (hty k (by omega)).2.1 hf
  rw [e2] at e1
  refine j_put hd hl ⟨Cn, N, hc, hN, hw, ⟨tys, ht, hty⟩, hnm⟩ hj hj1 hk hfin e1 rfl rfl (fun D i hi => uL_cont hi) (fun i hi => ?_) ?_ kk
  · unfold fv
    rw [uL_at, uL_1]
    simp only [hi, and_false, if_false]
    rfl
  · unfold fv
    rw [show ft (ck j).2 k = ft ci k by rw [hj], hf, uL_at]
    simp
/-- Law.code (k = 0), Law.nextCode (k = 2) -/
theorem j_putR {k idx q : Nat} {T : u_T} (hd : decode mi.2.1 pc = .ok (.putfield idx, 3)) (hl : FLk mi idx (T k).1 (T k).2.1 (T k).2.2.1) (hT : CLk 2 T) (hk : k = 0 ∨ k = 2) (hfin : (T k).2.2.2 = false) (kk : J a mi d g (pc + 3) L st (uR S k q)) : J a mi d g pc L (.ref (a q) :: .ref (a 2) :: st) S := by
  obtain ⟨Cn, N, hc, hN, hw, ⟨tys, ht, hty⟩, hnm⟩ := hT
  have hN2 : N = 15 := hN.symm
  have e1 := ht k (by omega)
  obtain ⟨t, e2⟩ := (hty k (by omega)).2.2.1 (by rcases hk with rfl | rfl <;> rfl)
  rw [e2] at e1
  refine j_put hd hl ⟨Cn, N, hc, hN, hw, ⟨tys, ht, hty⟩, hnm⟩ (show ck 2 = (0, 2) from rfl) (by decide) (by rw [hN]; omega) hfin e1 rfl (by rfl) (fun D i hi => ?_) (fun i hi => ?_) ?_ kk
  · exact cont_congr rfl rfl (fun k' => by unfold fr; simp [hi])
  · have e : fr (uR S k q) 2 i = fr S 2 i := by
      unfold fr uR
      rcases hk with rfl | rfl
      · simp [hi]
      · by_cases h0 : i = 0 <;> simp [hi, h0]
    unfold fv
    rw [e]
    rfl
  · rcases hk with rfl | rfl <;> rfl
theorem j_iald {j n len : Nat} {x : Int32} (hd : decode mi.2.1 pc = .ok (.iaload, 1)) (hj : ck j = (1, len)) (hj1 : j < 100) (hx : x = nI n) (hn : n < len) (hlen : len < 2 ^ 31 := by decide) (kk : J a mi d g (pc + 1) L (.int (S.1 j n) :: st) S) : J a mi d g pc L (.int x :: .ref (a j) :: st) S := by
  intro p l e R s m args below meth c D H locs ls C hl' hP hS
  have hg := cells_get (D := D) (a := a) (S := S) hj1
  rw [cont_I hj] at hg
  subst hx
  refine va_iald C.1 C.2.1 C.2.2.2.2.2.2.2.2.1 hP j 0 hg rfl (vp_in_nI hn hlen) hd ?_
  rw [nI_clamp (by omega)]
  exact kk p l e R s m args below meth c D H locs ls C hl' hP hS
theorem j_bald {j n len : Nat} {x : Int32} (hd : decode mi.2.1 pc = .ok (.baload, 1)) (hj : ck j = (2, len)) (hj1 : j < 100) (hx : x = nI n) (hn : n < len) (hlen : len < 2 ^ 31 := by decide) (kk : J a mi d g (pc + 1) L (.int (S.1 j n) :: st) S) : J a mi d g pc L (.int x :: .ref (a j) :: st) S := by
  intro p l e R s m args below meth c D H locs ls C hl' hP hS
  have hg := cells_get (D := D) (a := a) (S := S) hj1
  rw [cont_B hj] at hg
  subst hx
  refine va_bald C.1 C.2.1 C.2.2.2.2.2.2.2.2.1 hP j 1 hg rfl (vp_in_nI hn hlen) hd ?_
  rw [nI_clamp (by omega)]
  exact kk p l e R s m args below meth c D H locs ls C hl' hP hS
theorem j_sald {j n len : Nat} {x : Int32} (hd : decode mi.2.1 pc = .ok (.saload, 1)) (hj : ck j = (3, len)) (hj1 : j < 100) (hx : x = nI n) (hn : n < len) (hlen : len < 2 ^ 31 := by decide) (kk : J a mi d g (pc + 1) L (.int (S.1 j n) :: st) S) : J a mi d g pc L (.int x :: .ref (a j) :: st) S := by
  intro p l e R s m args below meth c D H locs ls C hl' hP hS
  have hg := cells_get (D := D) (a := a) (S := S) hj1
  rw [cont_S hj] at hg
  subst hx
  refine va_sald C.1 C.2.1 C.2.2.2.2.2.2.2.2.1 hP j 2 hg rfl (vp_in_nI hn hlen) hd ?_
  rw [nI_clamp (by omega)]
  exact kk p l e R s m args below meth c D H locs ls C hl' hP hS
theorem j_lald {j n len : Nat} {x : Int32} (hd : decode mi.2.1 pc = .ok (.laload, 1)) (hj : ck j = (4, len)) (hj1 : j < 100) (hx : x = nI n) (hn : n < len) (hlen : len < 2 ^ 31 := by decide) (kk : J a mi d g (pc + 1) L (.long (S.2.1 j n) :: st) S) : J a mi d g pc L (.int x :: .ref (a j) :: st) S := by
  intro p l e R s m args below meth c D H locs ls C hl' hP hS
  have hg := cells_get (D := D) (a := a) (S := S) hj1
  rw [cont_L hj] at hg
  subst hx
  refine va_lald C.1 C.2.1 C.2.2.2.2.2.2.2.2.1 hP j 3 hg rfl (vp_in_nI hn hlen) hd ?_
  rw [nI_clamp (by omega)]
  exact kk p l e R s m args below meth c D H locs ls C hl' hP hS
theorem j_aald {j n len : Nat} {x : Int32} (q : Nat) (hd : decode mi.2.1 pc = .ok (.aaload, 1)) (hj : ck j = (5, len) ∨ ck j = (6, len)) (hj1 : j < 100) (hx : x = nI n) (hn : n < len) (hlen : len < 2 ^ 31) (hq : fr S j n = q) (kk : J a mi d g (pc + 1) L (.ref (a q) :: st) S) : J a mi d g pc L (.int x :: .ref (a j) :: st) S := by
  intro p l e R s m args below meth c D H locs ls C hl' hP hS
  have hg := cells_get (D := D) (a := a) (S := S) hj1
  subst hx
  subst hq
  have hin := vp_in_nI hn hlen
  have hcl : (nI n).toNatClampNeg = n := nI_clamp (by omega)
  rcases hj with hj | hj
  · rw [cont_Q hj] at hg
    refine va_aldq C.1 C.2.1 C.2.2.2.2.2.2.2.2.1 hP j 4 hg rfl hin hd ?_
    rw [hcl]
    exact kk p l e R s m args below meth c D H locs ls C hl' hP hS
  · rw [cont_QI hj] at hg
    have hlt : (nI n).toNatClampNeg < len := by rw [hcl]; exact hn
    refine W.aald (v := va_rf (some (a (fr S j (nI n).toNatClampNeg)))) (ty := .array .int) C.1 C.2.1 (hP j _ hg) ((C.2.2.2.2.2.2.2.2.1.2 5 _ rfl).1 len (fun k => va_rf (some (a (fr S j k))))) rfl (fun q => by cases q) (by show ¬ (_ < 0 ∨ (arrV _ _ _).slots.size ≤ _); rw [arrV_size]; exact hin) (by show (arrV _ _ _).slots[_]? = _; rw [arrV_read _ _ hlt]) rfl rfl hd ?_
    rw [hcl]
    exact kk p l e R s m args below meth c D H locs ls C hl' hP hS
theorem j_iast {j n len : Nat} {x v : Int32} (hd : decode mi.2.1 pc = .ok (.iastore, 1)) (hj : ck j = (1, len)) (hj1 : j < 100) (hx : x = nI n) (hn : n < len) (hlen : len < 2 ^ 31 := by decide) (kk : J a mi d g (pc + 1) L st (uI S j n v)) : J a mi d g pc L (.int v :: .int x :: .ref (a j) :: st) S := by
  intro p l e R s m args below meth c D H locs ls C hl' hP hS
  have hg := cells_get (D := D) (a := a) (S := S) hj1
  rw [cont_I hj] at hg
  subst hx
  refine va_iast C.1 C.2.1 C.2.2.2.2.2.2.2.2.1 hP (cells_D C.2.2.2.2.2.2.2.2.2.1) hS j 0 hg rfl (vp_in_nI hn hlen) hd (fun H1 locs1 hP1 _ hS1 => ?_)
  rw [nI_clamp (by omega), cells_set (S' := uI S j n v) (fun i hi => uI_cont hi) (by rw [cont_I hj]; unfold uI; simp)] at hP1
  exact kk p l e R s m args below meth c D H1 locs1 ls C hl' hP1 hS1
theorem j_bast {j n len : Nat} {x v : Int32} (hd : decode mi.2.1 pc = .ok (.bastore, 1)) (hj : ck j = (2, len)) (hj1 : j < 100) (hx : x = nI n) (hn : n < len) (hlen : len < 2 ^ 31 := by decide) (kk : J a mi d g (pc + 1) L st (uI S j n v.toInt8.toInt32)) : J a mi d g pc L (.int v :: .int x :: .ref (a j) :: st) S := by
  intro p l e R s m args below meth c D H locs ls C hl' hP hS
  have hg := cells_get (D := D) (a := a) (S := S) hj1
  rw [cont_B hj] at hg
  subst hx
  refine va_bast C.1 C.2.1 C.2.2.2.2.2.2.2.2.1 hP (cells_D C.2.2.2.2.2.2.2.2.2.1) hS j 1 hg rfl (vp_in_nI hn hlen) hd (fun H1 locs1 hP1 _ hS1 => ?_)
  rw [nI_clamp (by omega), vp_nar_byte, cells_set (S' := uI S j n v.toInt8.toInt32) (fun i hi => uI_cont hi) (by rw [cont_B hj]; unfold uI; simp)] at hP1
  exact kk p l e R s m args below meth c D H1 locs1 ls C hl' hP1 hS1
theorem j_sast {j n len : Nat} {x v : Int32} (hd : decode mi.2.1 pc = .ok (.sastore, 1)) (hj : ck j = (3, len)) (hj1 : j < 100) (hx : x = nI n) (hn : n < len) (hlen : len < 2 ^ 31 := by decide) (kk : J a mi d g (pc + 1) L st (uI S j n v.toInt16.toInt32)) : J a mi d g pc L (.int v :: .int x :: .ref (a j) :: st) S := by
  intro p l e R s m args below meth c D H locs ls C hl' hP hS
  have hg := cells_get (D := D) (a := a) (S := S) hj1
  rw [cont_S hj] at hg
  subst hx
  refine va_sast C.1 C.2.1 C.2.2.2.2.2.2.2.2.1 hP (cells_D C.2.2.2.2.2.2.2.2.2.1) hS j 2 hg rfl (vp_in_nI hn hlen) hd (fun H1 locs1 hP1 _ hS1 => ?_)
  rw [nI_clamp (by omega), vp_nar_short, cells_set (S' := uI S j n v.toInt16.toInt32) (fun i hi => uI_cont hi) (by rw [cont_S hj]; unfold uI; simp)] at hP1
  exact kk p l e R s m args below meth c D H1 locs1 ls C hl' hP1 hS1
theorem j_last {j n len : Nat} {x : Int32} {v : Int64} (hd : decode mi.2.1 pc = .ok (.lastore, 1)) (hj : ck j = (4, len)) (hj1 : j < 100) (hx : x = nI n) (hn : n < len) (hlen : len < 2 ^ 31 := by decide) (kk : J a mi d g (pc + 1) L st (uL S j n v)) : J a mi d g pc L (.long v :: .int x :: .ref (a j) :: st) S := by
  intro p l e R s m args below meth c D H locs ls C hl' hP hS
  have hg := cells_get (D := D) (a := a) (S := S) hj1
  rw [cont_L hj] at hg
  subst hx
  refine va_last C.1 C.2.1 C.2.2.2.2.2.2.2.2.1 hP (cells_D C.2.2.2.2.2.2.2.2.2.1) hS j 3 hg rfl (vp_in_nI hn hlen) hd (fun H1 locs1 hP1 _ hS1 => ?_)
  rw [nI_clamp (by omega), cells_set (S' := uL S j n v) (fun i hi => uL_cont hi) (by rw [cont_L hj]; unfold uL; simp)] at hP1
  exact kk p l e R s m args below meth c D H1 locs1 ls C hl' hP1 hS1
theorem j_gets {idx i : Nat} {C n : String} {V : List Int32} (hd : decode mi.2.1 pc = .ok (.getstatic idx, 3)) (hz : zz_st[i]? = some (C, n, V)) (hl : FLk mi idx C n "[I") (kk : J a mi d g (pc + 3) L (.ref (a (200 + i)) :: st) S) : J a mi d g pc L st S := by
  intro p l e R s m args below meth c D H locs ls C hl' hP hS
  have hZ := (C.2.2.2.2.2.2.2.2.2.2.1 i _ _ _ hz).1
  rcases hl with hl | ⟨host, hl⟩
  · exact va_gets C.1 C.2.1 hZ hS C.2.2.2.2.2.1 (C.2.2.2.2.2.2.1 _ hl) (fun _ h => h) hd (kk p l e R s m args below meth c D H locs ls C hl' hP hS)
  · exact va_getsN C.1 C.2.1 hZ hS C.2.2.2.2.2.1 (va_Nw.use rfl (C.2.2.2.2.2.2.2.2.2.2.2.1 _ hl)) (fun _ h => h) hd (kk p l e R s m args below meth c D H locs ls C hl' hP hS)
theorem j_tald {i k : Nat} {C n : String} {V : List Int32} {x : Int32} (hd : decode mi.2.1 pc = .ok (.iaload, 1)) (hz : zz_st[i]? = some (C, n, V)) (hx : x = nI k) (hk : k < V.length) (hlen : V.length < 2 ^ 31) (kk : J a mi d g (pc + 1) L (.int (V.getD k 0) :: st) S) : J a mi d g pc L (.int x :: .ref (a (200 + i)) :: st) S := by
  intro p l e R s m args below meth c D H locs ls C hl' hP hS
  have hT := (C.2.2.2.2.2.2.2.2.2.2.1 i _ _ _ hz).2
  subst hx
  exact va_ti C.1 C.2.1 hT hS (vp_in_nI hk hlen) (v := .int (V.getD k 0)) (by rw [nI_clamp (by omega)]) hd (kk p l e R s m args below meth c D H locs ls C hl' hP hS)
theorem j_alen {j n kd : Nat} {v : Int32} (hd : decode mi.2.1 pc = .ok (.arraylength, 1)) (hj : ck j = (1, n)) (hj1 : j < 100) (hv : Int32.ofNat n = v) (kk : J a mi d g (pc + 1) L (.int v :: st) S) : J a mi d g pc L (.ref (a j) :: st) S := by
  intro p l e R s m args below meth c D H locs ls C hl' hP hS
  have hg := cells_get (D := D) (a := a) (S := S) hj1
  rw [cont_I hj] at hg
  exact va_alen C.1 C.2.1 C.2.2.2.2.2.2.2.2.1 hP j 0 hg rfl hv hd (kk p l e R s m args below meth c D H locs ls C hl' hP hS)
theorem cat_le (l : List Value) : (l.map fun v => v.category).sum ≤ 2 * l.length := by
  induction l with
  | nil => simp
  | cons v l ih => rcases lv_cat v with h | h <;> simp [h] <;> omega
theorem j_min {idx : Nat} {x y : Int32} (hd : decode mi.2.1 pc = .ok (.invokestatic idx, 3)) (hl : Cond.methodLink mi.1.cls idx Lib.Math.min.name ∈ TT) (h1 : Cond.static Lib.Math.min.name ∈ TT) (h2 : Cond.initialized "java/lang/Math" ∈ TT) (h3 : Cond.code Lib.Math.min.name Lib.Math.min.code 2 (some .int) ∈ TT) (hst : st.length ≤ 4) (hdd : 1 ≤ d) (kk : J a mi d g (pc + 3) L (.int (if y < x then y else x) :: st) S) : J a mi d g pc L (.int y :: .int x :: st) S := by
  intro p l e R s m args below meth c D H locs ls C hl' hP hS
  have hts := C.2.2.2.2.2.2.1
  have hr := C.2.2.2.2.2.2.2.1
  have := cat_le st
  exact va_mmin C.1 C.2.1 (by rw [C.2.2.1, hl'.1]) C.2.2.2.2.2.1 (hts _ hl) (hts _ h1) (hts _ h2) (hts _ h3) (by omega) (by omega) hr.2.2.1 hr.2.2.2 hd (kk p l e R s m args below meth c D H locs ls C hl' hP hS)
theorem j_max {idx : Nat} {x y : Int32} (hd : decode mi.2.1 pc = .ok (.invokestatic idx, 3)) (hl : Cond.methodLink mi.1.cls idx Lib.Math.max.name ∈ TT) (h1 : Cond.static Lib.Math.max.name ∈ TT) (h2 : Cond.initialized "java/lang/Math" ∈ TT) (h3 : Cond.code Lib.Math.max.name Lib.Math.max.code 2 (some .int) ∈ TT) (hst : st.length ≤ 4) (hdd : 1 ≤ d) (kk : J a mi d g (pc + 3) L (.int (if x < y then y else x) :: st) S) : J a mi d g pc L (.int y :: .int x :: st) S := by
  intro p l e R s m args below meth c D H locs ls C hl' hP hS
  have hts := C.2.2.2.2.2.2.1
  have hr := C.2.2.2.2.2.2.2.1
  have := cat_le st
  exact va_mmax C.1 C.2.1 (by rw [C.2.2.1, hl'.1]) C.2.2.2.2.2.1 (hts _ hl) (hts _ h1) (hts _ h2) (hts _ h3) (by omega) (by omega) hr.2.2.1 hr.2.2.2 hd (kk p l e R s m args below meth c D H locs ls C hl' hP hS)
theorem j_copyi {idx j0 j1 n0 n1 sp dp n : Nat} {x y z : Int32} (hd : decode mi.2.1 pc = .ok (.invokestatic idx, 3)) (hl : Cond.methodLink mi.1.cls idx arraycopyName ∈ TT) (h1 : Cond.native arraycopyName ∈ TT) (h2 : Cond.static arraycopyName ∈ TT) (h3 : Cond.initialized "java/lang/System" ∈ TT) (hj0 : ck j0 = (1, n0)) (hj1 : ck j1 = (1, n1)) (hb0 : j0 < 100) (hb1 : j1 < 100) (hx : x = nI sp) (hy : y = nI dp) (hz : z = nI n) (hsp : sp + n ≤ n0) (hdp : dp + n ≤ n1) (hn0 : n0 < 2 ^ 31) (hn1 : n1 < 2 ^ 31) (hst : st.length ≤ 4) (hdd : 1 ≤ d) (kk : J a mi d g (pc + 3) L st (sI S j1 (va_cpy (S.1 j0) (S.1 j1) sp dp n))) : J a mi d g pc L (.int z :: .int y :: .ref (a j1) :: .int x :: .ref (a j0) :: st) S := by
  intro p l e R s m args below meth c D H locs ls C hl' hP hS
  have hts := C.2.2.2.2.2.2.1
  have hr := C.2.2.2.2.2.2.2.1
  have := cat_le st
  have hg0 := cells_get (D := D) (a := a) (S := S) hb0
  rw [cont_I hj0] at hg0
  have hg1 := cells_get (D := D) (a := a) (S := S) hb1
  rw [cont_I hj1] at hg1
  subst hx
  subst hy
  subst hz
  have c1 : (nI sp).toNatClampNeg = sp := nI_clamp (by omega)
  have c2 : (nI dp).toNatClampNeg = dp := nI_clamp (by omega)
  have c3 : (nI n).toNatClampNeg = n := nI_clamp (by omega)
  have hw : nativeFrameWords "java/lang/System" "arraycopy" 5 = 7 := by decide +kernel
  refine va_copyi C.1 C.2.1 (by rw [C.2.2.1, hl'.1]) C.2.2.2.2.2.1 (hts _ hl) (hts _ h1) (hts _ h2) (hts _ h3) C.2.2.2.2.2.2.2.2.1 hP (cells_D C.2.2.2.2.2.2.2.2.2.1) hS j0 j1 0 0 hg0 hg1 rfl rfl rfl (nI_pos (by omega)) (nI_pos (by omega)) (nI_pos (by omega)) (by rw [c1, c3]; exact hsp) (by rw [c2, c3]; exact hdp) (fun _ _ => rfl) (by omega) (by rw [hw]; omega) hd (fun H1 locs1 hP1 _ hS1 => ?_)
  rw [c1, c2, c3, cells_set (S' := sI S j1 (va_cpy (S.1 j0) (S.1 j1) sp dp n)) (fun i hi => sI_cont hi) (by rw [cont_I hj1]; unfold sI; simp)] at hP1
  exact kk p l e R s m args below meth c D H1 locs1 ls C hl' hP1 hS1
theorem j_copyl {idx j0 j1 n0 n1 sp dp n : Nat} {x y z : Int32} (hd : decode mi.2.1 pc = .ok (.invokestatic idx, 3)) (hl : Cond.methodLink mi.1.cls idx arraycopyName ∈ TT) (h1 : Cond.native arraycopyName ∈ TT) (h2 : Cond.static arraycopyName ∈ TT) (h3 : Cond.initialized "java/lang/System" ∈ TT) (hj0 : ck j0 = (4, n0)) (hj1 : ck j1 = (4, n1)) (hb0 : j0 < 100) (hb1 : j1 < 100) (hx : x = nI sp) (hy : y = nI dp) (hz : z = nI n) (hsp : sp + n ≤ n0) (hdp : dp + n ≤ n1) (hn0 : n0 < 2 ^ 31) (hn1 : n1 < 2 ^ 31) (hst : st.length ≤ 4) (hdd : 1 ≤ d) (kk : J a mi d g (pc + 3) L st (sL S j1 (va_cpy (S.2.1 j0) (S.2.1 j1) sp dp n))) : J a mi d g pc L (.int z :: .int y :: .ref (a j1) :: .int x :: .ref (a j0) :: st) S := by
  intro p l e R s m args below meth c D H locs ls C hl' hP hS
  have hts := C.2.2.2.2.2.2.1
  have hr := C.2.2.2.2.2.2.2.1
  have := cat_le st
  have hg0 := cells_get (D := D) (a := a) (S := S) hb0
  rw [cont_L hj0] at hg0
  have hg1 := cells_get (D := D) (a := a) (S := S) hb1
  rw [cont_L hj1] at hg1
  subst hx
  subst hy
  subst hz
  have c1 : (nI sp).toNatClampNeg = sp := nI_clamp (by omega)
  have c2 : (nI dp).toNatClampNeg = dp := nI_clamp (by omega)
  have c3 : (nI n).toNatClampNeg = n := nI_clamp (by omega)
  have hw : nativeFrameWords "java/lang/System" "arraycopy" 5 = 7 := by decide +kernel
  refine va_copyl C.1 C.2.1 (by rw [C.2.2.1, hl'.1]) C.2.2.2.2.2.1 (hts _ hl) (hts _ h1) (hts _ h2) (hts _ h3) C.2.2.2.2.2.2.2.2.1 hP (cells_D C.2.2.2.2.2.2.2.2.2.1) hS j0 j1 3 3 hg0 hg1 rfl rfl rfl (nI_pos (by omega)) (nI_pos (by omega)) (nI_pos (by omega)) (by rw [c1, c3]; exact hsp) (by rw [c2, c3]; exact hdp) (fun _ _ => rfl) (by omega) (by rw [hw]; omega) hd (fun H1 locs1 hP1 _ hS1 => ?_)
  rw [c1, c2, c3, cells_set (S' := sL S j1 (va_cpy (S.2.1 j0) (S.2.1 j1) sp dp n)) (fun i hi => sL_cont hi) (by rw [cont_L hj1]; unfold sL; simp)] at hP1
  exact kk p l e R s m args below meth c D H1 locs1 ls C hl' hP1 hS1
end Heap
end
section
/-! returns and calls -/
def World (D : DD) (a : Nat → Nat) (S : St) (U : State) : Prop := va_P D.1 zz_Cl (cells D a S) U.heap ∧ va_K D.1 zz_Cl (zz_tys D) U ∧ InjA a ∧ Stat a U U.heap ∧ ∀ w ∈ NW, va_Nw w U
theorem Stat.moved {a : Nat → Nat} {u U : State} {H : Heap} (hvm : u.vm.Alike U.vm) (h : Stat a u H) : Stat a U H := fun i C n L hz => ⟨va_Z.moved hvm (h i C n L hz).1, va_T.moved hvm (h i C n L hz).2⟩
theorem Stat.kept {a : Nat → Nat} {U : State} {H H1 : Heap} (h : Stat a U H) (hq : ∀ x : Nat, x < H.size → ¬ AA a x → H1[x]? = H[x]?) : Stat a U H1 := fun i C n L hz => ⟨(h i C n L hz).1.kept hq, (h i C n L hz).2.kept hq⟩
theorem World.blind {D : DD} {a : Nat → Nat} {S : St} {As : List Value} : FrameBlind (va_Pc As (World D a S)) := fun x U g mk q => by
  obtain ⟨q0, q1, q2, q3, q4, q5⟩ := q
  exact ⟨q0, q1, va_K.moved (u := U) (U := U.calling g mk x) (Vm.Alike.refl U.vm) q2, q3, Stat.moved (u := U) (U := U.calling g mk x) (Vm.Alike.refl U.vm) q4, NW_same (s := U) (U := U.calling g mk x) rfl q5⟩
section Calls
variable {a : Nat → Nat} {mi mi' : MI} {d d' : Nat} {g : GG} {pc : Nat} {L st : List Value} {S : St} {Q : Option Value → St → Prop}
theorem j_iret {v : Int32} (hd : decode mi.2.1 pc = .ok (.ireturn, 1)) (hr : mi.2.2.2 = some .int) (hq : Q (some (.int v)) S) : J a mi d (gm a Q) pc L [.int v] S := by
  intro p l e R s m args below meth c D H locs ls C hl hP hS
  exact W.iret C.1 C.2.1 (C.2.2.2.1.trans hr) (fun t ht hW => ⟨⟨_, S, rfl, hq, by rw [ht]; exact hP⟩, hS.F ht⟩) (fun q hq => hS.2.2 q hq) hd C.2.2.2.2.1
theorem j_zret {v : Int32} (hd : decode mi.2.1 pc = .ok (.ireturn, 1)) (hr : mi.2.2.2 = some .boolean) (hv : v = 0 ∨ v = 1) (hq : Q (some (.int v)) S) : J a mi d (gm a Q) pc L [.int v] S := by
  intro p l e R s m args below meth c D H locs ls C hl hP hS
  exact W.zret C.1 C.2.1 (C.2.2.2.1.trans hr) (by rcases hv with rfl | rfl <;> rfl) (fun t ht hW => ⟨⟨_, S, rfl, hq, by rw [ht]; exact hP⟩, hS.F ht⟩) (fun q hq => hS.2.2 q hq) hd C.2.2.2.2.1
theorem j_lret {v : Int64} (hd : decode mi.2.1 pc = .ok (.lreturn, 1)) (hr : mi.2.2.2 = some .long) (hq : Q (some (.long v)) S) : J a mi d (gm a Q) pc L [.long v] S := by
  intro p l e R s m args below meth c D H locs ls C hl hP hS
  exact W.lret C.1 C.2.1 (C.2.2.2.1.trans hr) (fun t ht hW => ⟨⟨_, S, rfl, hq, by rw [ht]; exact hP⟩, hS.F ht⟩) (fun q hq => hS.2.2 q hq) hd C.2.2.2.2.1
theorem j_vret (hd : decode mi.2.1 pc = .ok (.return_, 1)) (hr : mi.2.2.2 = none) (hq : Q none S) : J a mi d (gm a Q) pc L [] S := by
  intro p l e R s m args below meth c D H locs ls C hl hP hS
  exact W.vret C.1 C.2.1 (C.2.2.2.1.trans hr) (fun t ht hW => ⟨⟨_, S, rfl, hq, by rw [ht]; exact hP⟩, hS.F ht⟩) (fun q hq => hS.2.2 q hq) hd C.2.2.2.2.1
theorem J.mono (h : J a mi d' g pc L st S) (hd : d' ≤ d) : J a mi d g pc L st S := by
  intro p l e R s m args below meth c D H locs ls C hl hP hS
  exact h p l e R s m args below meth c D H locs ls ⟨C.1, C.2.1, C.2.2.1, C.2.2.2.1, C.2.2.2.2.1, C.2.2.2.2.2.1, C.2.2.2.2.2.2.1, ⟨by have := C.2.2.2.2.2.2.2.1.1; omega, by have := C.2.2.2.2.2.2.2.1.2.1; omega, C.2.2.2.2.2.2.2.1.2.2⟩, C.2.2.2.2.2.2.2.2⟩ hl hP hS
theorem J.post {Q' : Option Value → St → Prop} (h : J a mi d (gm a Q') pc L st S) (hQ : ∀ r S', Q' r S' → Q r S') : J a mi d (gm a Q) pc L st S := by
  intro p l e R s m args below meth c D H locs ls C hl hP hS T hT X
  obtain ⟨t, h1, o, h2, h3, ⟨⟨r, S', e1, e2, e3⟩, h5⟩, h6⟩ := h p l e R s m args below meth c D H locs ls C hl hP hS T hT X
  exact ⟨t, h1, o, h2, h3, ⟨⟨r, S', e1, hQ r S' e2, e3⟩, h5⟩, h6⟩
theorem J_met {As L0 : List Value} (hJ : J a mi d (gm a Q) 0 L0 [] S) (hL : ent mi.2.2.1 As = L0) (hlen : (lg_sl As).length ≤ mi.2.2.1) (hy : plainName mi.1.cls = true) (l : Launch) (D : DD) : Met l mi.1 (Cond.code mi.1 mi.2.1 mi.2.2.1 mi.2.2.2 :: TT) { frames := d, cells := 0, slots := 0, locals := 60 * d } (va_Pc As (World D a S)) (PQ D a Q) 0 0 (AA a) := by
  refine Met.ofW (cc := mi.2.1) (maxL := mi.2.2.1) (ret := mi.2.2.2) hy rfl ?_
  intro p e s m args below meth c s₁ B hml hv
  obtain ⟨rfl, hP, hK, hI, hSt, hN⟩ := hv
  have hts := atoms_spec (ws := Cond.code mi.1 mi.2.1 mi.2.2.1 mi.2.2.2 :: TT) B.pre
  have hown : s.vm.findClass mi.1.cls = some m.cls := findClass_of_methodNamed B.named
  rw [lg_entry_eq]
  subst hL
  exact hJ p l e _ s m _ below meth c D s.heap [] _ ⟨B.exec, B.bytes, hml, B.returns, B.notSynchronized, hown, fun w hw => hts w (List.mem_cons_of_mem _ hw), ⟨Nat.le_refl _, Nat.le_refl _, Nat.zero_le _, Nat.zero_le _⟩, hK, hI, hSt, hN, trivial⟩ (lx_entry As hlen) hP va_S.rf
theorem W_of_run {p : Program} {l : Launch} {e : Env} {R : Room} {s : State} {m : MethodId} {args : Array Value} {below : List Frame} {meth : Method} {c : Code} {H : Heap} {locs : List Loc} {k n : Nat} {Zg : State → Prop} {ls : Array Slot} {st0 rest : List Value} {D : DD} {Q' : Option Value → St → Prop} {aa : Array Value} (hS : va_S (AA a) s.heap H locs)
    (hr : va_Run p l e R s m args below meth c H locs k n 0 0 (F0 m pc ls st0) rest (PQ D a Q' aa) (AA a))
    (kk : ∀ (r : Option Value) (S1 : St) (H1 : Heap) (locs1 : List Loc), Q' r S1 → va_P D.1 zz_Cl (cells D a S1) H1 → va_S (AA a) s.heap H1 locs1 → W p l e R s m args below meth c H1 locs1 k n Zg (F0 m (pc + 3) ls (r.toList ++ rest))) : W p l e R s m args below meth c H locs k n Zg (F0 m pc ls st0) := by
  intro T hT X
  obtain ⟨v, st₀, t, T', L', h0, X', hL, e1, e2, ⟨⟨r, S1, hv, hp, hb⟩, hz, hk⟩, stp⟩ := hr T hT X
  cases hv
  rw [h0] at hz hk
  obtain ⟨t2, a1, b1⟩ := kk v S1 T'.heap (locs ++ L') hp (by rw [e1]; exact hb)
    ⟨Nat.le_trans hS.1 (by rw [e1]; exact hz), fun q h1 h2 => by rw [e1, hk q (Nat.lt_of_lt_of_le h1 hS.1) h2]; exact hS.2.1 q h1 h2, fun q hq => by
      rcases List.mem_append.mp hq with h | h
      · exact hS.2.2 q h
      · exact hL q h⟩ T' rfl X'
  exact ⟨t2, stp t2 a1, b1⟩
/-- a callee's words -/
def CalS (y : MI) (n : Nat) : Prop := Cond.code y.1 y.2.1 y.2.2.1 y.2.2.2 ∈ TT ∧ Cond.initialized y.1.cls ∈ TT ∧ plainName y.1.cls = true ∧ (y.1.cls ≠ "java/lang/invoke/MethodHandle" ∧ y.1.cls ≠ "java/lang/invoke/VarHandle") ∧ (parseMethodDescriptor y.1.desc).map (fun q => q.parameters.length) = some n ∧ y.2.2.1 ≤ 40
theorem GoodTT {y : MI} {n : Nat} (h : CalS y n) : GoodIn TT (Cond.code y.1 y.2.1 y.2.2.1 y.2.2.2 :: TT) := fun w hw => by
  rcases List.mem_cons.mp hw with e | e
  · rw [e]; exact ⟨h.1, good_of_word (TT_good _ h.1)⟩
  · exact ⟨e, good_of_word (TT_good _ e)⟩
theorem worldOf {p : Program} {R : Room} {s U : State} {m : MethodId} {args : Array Value} {meth : Method} {c : Code} {D : DD} {k n : Nat} {E : State → Prop} {H : Heap} {locs : List Loc} (C : Cx p R s m args meth c D a mi d k n E) (hP : va_P D.1 zz_Cl (cells D a S) H) (hS : va_S (AA a) s.heap H locs) (hU : U.heap = H) (hW : s.WarmedH U.vm) : World D a S U := by
  refine ⟨by rw [hU]; exact hP, va_K.moved hW.alike C.2.2.2.2.2.2.2.2.1, C.2.2.2.2.2.2.2.2.2.1, ?_, NW_warm hW C.2.2.2.2.2.2.2.2.2.2.2.1⟩
  rw [hU]
  exact (C.2.2.2.2.2.2.2.2.2.2.1.kept hS.2.1).moved hW.alike
theorem j_callS {As L0 : List Value} {n idx : Nat} {Q' : Option Value → St → Prop} (hd : decode mi.2.1 pc = .ok (.invokestatic idx, 3)) (hl : MLk mi idx mi'.1) (hc : CalS mi' n) (hst : Cond.static mi'.1 ∈ TT) (hn : As.length = n) (hL : ent mi'.2.2.1 As = L0) (hlen : (lg_sl As).length ≤ mi'.2.2.1) (hrest : (st.map fun v => v.category).sum ≤ 8) (hdd : d' + 1 ≤ d)
    (hJ : J a mi' d' (gm a Q') 0 L0 [] S) (kk : ∀ r S1, Q' r S1 → J a mi d g (pc + 3) L (r.toList ++ st) S1) : J a mi d g pc L (As.reverse ++ st) S := by
  intro p l e R s m args below meth c D H locs ls C hl' hP hS
  have hM := J_met hJ hL hlen hc.2.2.1 l D
  have hts := C.2.2.2.2.2.2.1
  have hr := C.2.2.2.2.2.2.2.1
  have hmx := hc.2.2.2.2.2
  have hroom : ({ frames := d', cells := 0, slots := 0, locals := 60 * d' } : Room).frames + 1 ≤ R.frames ∧ 8 + (mi'.2.2.1 + 11) + ({ frames := d', cells := 0, slots := 0, locals := 60 * d' } : Room).locals ≤ R.locals := ⟨by show d' + 1 ≤ _; omega, by show _ + 60 * d' ≤ _; omega⟩
  have hpre : PreS s H (va_Pc As (World D a S)) As := ⟨World.blind, fun U hU hW => ⟨rfl, worldOf C hP hS hU hW⟩⟩
  rcases hl with hl | ⟨host, hl⟩
  · exact W_of_run hS (va_runS (As := As) (rest := st) (index := idx) (cc := mi.2.1) (nL := mi.2.2.1) ⟨C.1, C.2.1, C.2.2.1, C.2.2.2.2.2.1, hts⟩ hM ⟨callB_of n hts (GoodTT hc) rfl rfl rfl (hts _ hc.2.1) (hts _ hl) ⟨hc.2.2.2.1.1, hc.2.2.2.1.2, hc.2.2.2.2.1⟩ hroom, hts _ hst⟩ hpre rfl hn hl'.1 rfl (lv_room hrest) hd ⟨hr.2.2.1, hr.2.2.2⟩) (fun r S1 H1 locs1 hq hP1 hS1 => kk r S1 hq p l e R s m args below meth c D H1 locs1 ls C hl' hP1 hS1)
  · exact W_of_run hS (va_runSN (As := As) (rest := st) (index := idx) (host := host) (cc := mi.2.1) (nL := mi.2.2.1) ⟨C.1, C.2.1, C.2.2.1, C.2.2.2.2.2.1, hts⟩ hM ⟨va_cnB n hts (GoodTT hc) rfl rfl rfl (C.2.2.2.2.2.2.2.2.2.2.2.1 _ hl) (hts _ hc.2.1) ⟨hc.2.2.2.1.1, hc.2.2.2.1.2, hc.2.2.2.2.1⟩ hroom, hts _ hst, trivial⟩ hpre rfl hn hl'.1 rfl (lv_room hrest) hd ⟨hr.2.2.1, hr.2.2.2⟩) (fun r S1 H1 locs1 hq hP1 hS1 => kk r S1 hq p l e R s m args below meth c D H1 locs1 ls C hl' hP1 hS1)
def CalV (y : MI) (n : Nat) : Prop := CalS y n ∧ Cond.instanceMethod y.1 ∈ TT ∧ Cond.selects y.1.cls y.1 y.1 ∈ TT
theorem j_callV {As L0 : List Value} {n idx j ci : Nat} {T : u_T} {N : Nat} {Q' : Option Value → St → Prop} (hd : decode mi.2.1 pc = .ok (.invokevirtual idx, 3)) (hl : Cond.methodLink mi.1.cls idx mi'.1 ∈ TT) (hc : CalV mi' n) (hj : ck j = (0, ci)) (hj1 : j < 100) (hci : zz_Cl[ci]? = some (mi'.1.cls, T, N)) (hn : As.length = n) (hL : ent mi'.2.2.1 (.ref (a j) :: As) = L0) (hlen : (lg_sl (.ref (a j) :: As)).length ≤ mi'.2.2.1) (hrest : (st.map fun v => v.category).sum ≤ 8) (hdd : d' + 1 ≤ d)
    (hJ : J a mi' d' (gm a Q') 0 L0 [] S) (kk : ∀ r S1, Q' r S1 → J a mi d g (pc + 3) L (r.toList ++ st) S1) : J a mi d g pc L (As.reverse ++ .ref (a j) :: st) S := by
  intro p l e R s m args below meth c D H locs ls C hl' hP hS
  have hM := J_met hJ hL hlen hc.1.2.2.1 l D
  have hts := C.2.2.2.2.2.2.1
  have hr := C.2.2.2.2.2.2.2.1
  have hmx := hc.1.2.2.2.2.2
  have hroom : ({ frames := d', cells := 0, slots := 0, locals := 60 * d' } : Room).frames + 1 ≤ R.frames ∧ 8 + (mi'.2.2.1 + 11) + ({ frames := d', cells := 0, slots := 0, locals := 60 * d' } : Room).locals ≤ R.locals := ⟨by show d' + 1 ≤ _; omega, by show _ + 60 * d' ≤ _; omega⟩
  have hg := cells_get (D := D) (a := a) (S := S) hj1
  rw [cont_obj hj] at hg
  have hpre : PreV s H mi'.1.cls (a j) (va_Pc (.ref (a j) :: As) (World D a S)) As := ⟨World.blind, va_recv C.2.2.2.2.2.2.2.2.1 hP hci hg, fun U hU hW => ⟨rfl, worldOf C hP hS hU hW⟩⟩
  exact W_of_run hS (va_runV (As := As) (rest := st) (index := idx) (cc := mi.2.1) (nL := mi.2.2.1) ⟨C.1, C.2.1, C.2.2.1, C.2.2.2.2.2.1, hts⟩ hM ⟨callB_of n hts (GoodTT hc.1) rfl rfl rfl (hts _ hc.1.2.1) (hts _ hl) ⟨hc.1.2.2.2.1.1, hc.1.2.2.2.1.2, hc.1.2.2.2.2.1⟩ hroom, hts _ hc.2.1, hts _ hc.2.2⟩ hpre rfl hn hl'.1 rfl (lv_room hrest) hd ⟨hr.2.2.1, hr.2.2.2⟩) (fun r S1 H1 locs1 hq hP1 hS1 => kk r S1 hq p l e R s m args below meth c D H1 locs1 ls C hl' hP1 hS1)
/-- what a method answers, and the state behind it -/
abbrev Rt (a : Nat → Nat) (mi : MI) (d : Nat) (As : List Value) (S : St) (r : Option Value) (S1 : St) : Prop := J a mi d (gm a fun r' S' => r' = r ∧ S' = S1) 0 (ent mi.2.2.1 As) [] S
abbrev Rq (a : Nat → Nat) (mi : MI) (d : Nat) (As : List Value) (S : St) (Q : Option Value → St → Prop) : Prop := J a mi d (gm a Q) 0 (ent mi.2.2.1 As) [] S

theorem j_cV0 {idx j ci : Nat} {T : u_T} {N : Nat} {r : Option Value} {S1 : St} (hd : decode mi.2.1 pc = .ok (.invokevirtual idx, 3)) (hl : Cond.methodLink mi.1.cls idx mi'.1 ∈ TT) (hc : CalV mi' 0) (hj : ck j = (0, ci)) (hj1 : j < 100) (hci : zz_Cl[ci]? = some (mi'.1.cls, T, N)) (hlen : (lg_sl [.ref (a j)]).length ≤ mi'.2.2.1) (hrest : (st.map fun v => v.category).sum ≤ 8) (hdd : d' + 1 ≤ d) (hJ : Rt a mi' d' [.ref (a j)] S r S1) (kk : J a mi d g (pc + 3) L (r.toList ++ st) S1) : J a mi d g pc L (.ref (a j) :: st) S :=
  j_callV (As := []) hd hl hc hj hj1 hci rfl rfl hlen hrest hdd hJ (fun r' S' hq => by rw [hq.1, hq.2]; exact kk)
theorem j_qV0 {idx j ci : Nat} {T : u_T} {N : Nat} {Q' : Option Value → St → Prop} (hd : decode mi.2.1 pc = .ok (.invokevirtual idx, 3)) (hl : Cond.methodLink mi.1.cls idx mi'.1 ∈ TT) (hc : CalV mi' 0) (hj : ck j = (0, ci)) (hj1 : j < 100) (hci : zz_Cl[ci]? = some (mi'.1.cls, T, N)) (hlen : (lg_sl [.ref (a j)]).length ≤ mi'.2.2.1) (hrest : (st.map fun v => v.category).sum ≤ 8) (hdd : d' + 1 ≤ d) (hJ : Rq a mi' d' [.ref (a j)] S Q') (kk : ∀ r S1, Q' r S1 → J a mi d g (pc + 3) L (r.toList ++ st) S1) : J a mi d g pc L (.ref (a j) :: st) S :=
  j_callV (As := []) hd hl hc hj hj1 hci rfl rfl hlen hrest hdd hJ kk
theorem j_cS0 {idx : Nat} {r : Option Value} {S1 : St} (hd : decode mi.2.1 pc = .ok (.invokestatic idx, 3)) (hl : MLk mi idx mi'.1) (hc : CalS mi' 0) (hst : Cond.static mi'.1 ∈ TT) (hlen : (lg_sl []).length ≤ mi'.2.2.1) (hrest : (st.map fun v => v.category).sum ≤ 8) (hdd : d' + 1 ≤ d) (hJ : Rt a mi' d' [] S r S1) (kk : J a mi d g (pc + 3) L (r.toList ++ st) S1) : J a mi d g pc L (st) S :=
  j_callS (As := []) hd hl hc hst rfl rfl hlen hrest hdd hJ (fun r' S' hq => by rw [hq.1, hq.2]; exact kk)
theorem j_qS0 {idx : Nat} {Q' : Option Value → St → Prop} (hd : decode mi.2.1 pc = .ok (.invokestatic idx, 3)) (hl : MLk mi idx mi'.1) (hc : CalS mi' 0) (hst : Cond.static mi'.1 ∈ TT) (hlen : (lg_sl []).length ≤ mi'.2.2.1) (hrest : (st.map fun v => v.category).sum ≤ 8) (hdd : d' + 1 ≤ d) (hJ : Rq a mi' d' [] S Q') (kk : ∀ r S1, Q' r S1 → J a mi d g (pc + 3) L (r.toList ++ st) S1) : J a mi d g pc L (st) S :=
  j_callS (As := []) hd hl hc hst rfl rfl hlen hrest hdd hJ kk
theorem j_cV1 {x0 : Value} {idx j ci : Nat} {T : u_T} {N : Nat} {r : Option Value} {S1 : St} (hd : decode mi.2.1 pc = .ok (.invokevirtual idx, 3)) (hl : Cond.methodLink mi.1.cls idx mi'.1 ∈ TT) (hc : CalV mi' 1) (hj : ck j = (0, ci)) (hj1 : j < 100) (hci : zz_Cl[ci]? = some (mi'.1.cls, T, N)) (hlen : (lg_sl [.ref (a j), x0]).length ≤ mi'.2.2.1) (hrest : (st.map fun v => v.category).sum ≤ 8) (hdd : d' + 1 ≤ d) (hJ : Rt a mi' d' [.ref (a j), x0] S r S1) (kk : J a mi d g (pc + 3) L (r.toList ++ st) S1) : J a mi d g pc L (x0 :: .ref (a j) :: st) S :=
  j_callV (As := [x0]) hd hl hc hj hj1 hci rfl rfl hlen hrest hdd hJ (fun r' S' hq => by rw [hq.1, hq.2]; exact kk)
theorem j_qV1 {x0 : Value} {idx j ci : Nat} {T : u_T} {N : Nat} {Q' : Option Value → St → Prop} (hd : decode mi.2.1 pc = .ok (.invokevirtual idx, 3)) (hl : Cond.methodLink mi.1.cls idx mi'.1 ∈ TT) (hc : CalV mi' 1) (hj : ck j = (0, ci)) (hj1 : j < 100) (hci : zz_Cl[ci]? = some (mi'.1.cls, T, N)) (hlen : (lg_sl [.ref (a j), x0]).length ≤ mi'.2.2.1) (hrest : (st.map fun v => v.category).sum ≤ 8) (hdd : d' + 1 ≤ d) (hJ : Rq a mi' d' [.ref (a j), x0] S Q') (kk : ∀ r S1, Q' r S1 → J a mi d g (pc + 3) L (r.toList ++ st) S1) : J a mi d g pc L (x0 :: .ref (a j) :: st) S :=
  j_callV (As := [x0]) hd hl hc hj hj1 hci rfl rfl hlen hrest hdd hJ kk
theorem j_cS1 {x0 : Value} {idx : Nat} {r : Option Value} {S1 : St} (hd : decode mi.2.1 pc = .ok (.invokestatic idx, 3)) (hl : MLk mi idx mi'.1) (hc : CalS mi' 1) (hst : Cond.static mi'.1 ∈ TT) (hlen : (lg_sl [x0]).length ≤ mi'.2.2.1) (hrest : (st.map fun v => v.category).sum ≤ 8) (hdd : d' + 1 ≤ d) (hJ : Rt a mi' d' [x0] S r S1) (kk : J a mi d g (pc + 3) L (r.toList ++ st) S1) : J a mi d g pc L (x0 :: st) S :=
  j_callS (As := [x0]) hd hl hc hst rfl rfl hlen hrest hdd hJ (fun r' S' hq => by rw [hq.1, hq.2]; exact kk)
theorem j_qS1 {x0 : Value} {idx : Nat} {Q' : Option Value → St → Prop} (hd : decode mi.2.1 pc = .ok (.invokestatic idx, 3)) (hl : MLk mi idx mi'.1) (hc : CalS mi' 1) (hst : Cond.static mi'.1 ∈ TT) (hlen : (lg_sl [x0]).length ≤ mi'.2.2.1) (hrest : (st.map fun v => v.category).sum ≤ 8) (hdd : d' + 1 ≤ d) (hJ : Rq a mi' d' [x0] S Q') (kk : ∀ r S1, Q' r S1 → J a mi d g (pc + 3) L (r.toList ++ st) S1) : J a mi d g pc L (x0 :: st) S :=
  j_callS (As := [x0]) hd hl hc hst rfl rfl hlen hrest hdd hJ kk
theorem j_cV2 {x0 x1 : Value} {idx j ci : Nat} {T : u_T} {N : Nat} {r : Option Value} {S1 : St} (hd : decode mi.2.1 pc = .ok (.invokevirtual idx, 3)) (hl : Cond.methodLink mi.1.cls idx mi'.1 ∈ TT) (hc : CalV mi' 2) (hj : ck j = (0, ci)) (hj1 : j < 100) (hci : zz_Cl[ci]? = some (mi'.1.cls, T, N)) (hlen : (lg_sl [.ref (a j), x0, x1]).length ≤ mi'.2.2.1) (hrest : (st.map fun v => v.category).sum ≤ 8) (hdd : d' + 1 ≤ d) (hJ : Rt a mi' d' [.ref (a j), x0, x1] S r S1) (kk : J a mi d g (pc + 3) L (r.toList ++ st) S1) : J a mi d g pc L (x1 :: x0 :: .ref (a j) :: st) S :=
  j_callV (As := [x0, x1]) hd hl hc hj hj1 hci rfl rfl hlen hrest hdd hJ (fun r' S' hq => by rw [hq.1, hq.2]; exact kk)
theorem j_qV2 {x0 x1 : Value} {idx j ci : Nat} {T : u_T} {N : Nat} {Q' : Option Value → St → Prop} (hd : decode mi.2.1 pc = .ok (.invokevirtual idx, 3)) (hl : Cond.methodLink mi.1.cls idx mi'.1 ∈ TT) (hc : CalV mi' 2) (hj : ck j = (0, ci)) (hj1 : j < 100) (hci : zz_Cl[ci]? = some (mi'.1.cls, T, N)) (hlen : (lg_sl [.ref (a j), x0, x1]).length ≤ mi'.2.2.1) (hrest : (st.map fun v => v.category).sum ≤ 8) (hdd : d' + 1 ≤ d) (hJ : Rq a mi' d' [.ref (a j), x0, x1] S Q') (kk : ∀ r S1, Q' r S1 → J a mi d g (pc + 3) L (r.toList ++ st) S1) : J a mi d g pc L (x1 :: x0 :: .ref (a j) :: st) S :=
  j_callV (As := [x0, x1]) hd hl hc hj hj1 hci rfl rfl hlen hrest hdd hJ kk
theorem j_cS2 {x0 x1 : Value} {idx : Nat} {r : Option Value} {S1 : St} (hd : decode mi.2.1 pc = .ok (.invokestatic idx, 3)) (hl : MLk mi idx mi'.1) (hc : CalS mi' 2) (hst : Cond.static mi'.1 ∈ TT) (hlen : (lg_sl [x0, x1]).length ≤ mi'.2.2.1) (hrest : (st.map fun v => v.category).sum ≤ 8) (hdd : d' + 1 ≤ d) (hJ : Rt a mi' d' [x0, x1] S r S1) (kk : J a mi d g (pc + 3) L (r.toList ++ st) S1) : J a mi d g pc L (x1 :: x0 :: st) S :=
  j_callS (As := [x0, x1]) hd hl hc hst rfl rfl hlen hrest hdd hJ (fun r' S' hq => by rw [hq.1, hq.2]; exact kk)
theorem j_qS2 {x0 x1 : Value} {idx : Nat} {Q' : Option Value → St → Prop} (hd : decode mi.2.1 pc = .ok (.invokestatic idx, 3)) (hl : MLk mi idx mi'.1) (hc : CalS mi' 2) (hst : Cond.static mi'.1 ∈ TT) (hlen : (lg_sl [x0, x1]).length ≤ mi'.2.2.1) (hrest : (st.map fun v => v.category).sum ≤ 8) (hdd : d' + 1 ≤ d) (hJ : Rq a mi' d' [x0, x1] S Q') (kk : ∀ r S1, Q' r S1 → J a mi d g (pc + 3) L (r.toList ++ st) S1) : J a mi d g pc L (x1 :: x0 :: st) S :=
  j_callS (As := [x0, x1]) hd hl hc hst rfl rfl hlen hrest hdd hJ kk
theorem j_cV3 {x0 x1 x2 : Value} {idx j ci : Nat} {T : u_T} {N : Nat} {r : Option Value} {S1 : St} (hd : decode mi.2.1 pc = .ok (.invokevirtual idx, 3)) (hl : Cond.methodLink mi.1.cls idx mi'.1 ∈ TT) (hc : CalV mi' 3) (hj : ck j = (0, ci)) (hj1 : j < 100) (hci : zz_Cl[ci]? = some (mi'.1.cls, T, N)) (hlen : (lg_sl [.ref (a j), x0, x1, x2]).length ≤ mi'.2.2.1) (hrest : (st.map fun v => v.category).sum ≤ 8) (hdd : d' + 1 ≤ d) (hJ : Rt a mi' d' [.ref (a j), x0, x1, x2] S r S1) (kk : J a mi d g (pc + 3) L (r.toList ++ st) S1) : J a mi d g pc L (x2 :: x1 :: x0 :: .ref (a j) :: st) S :=
  j_callV (As := [x0, x1, x2]) hd hl hc hj hj1 hci rfl rfl hlen hrest hdd hJ (fun r' S' hq => by rw [hq.1, hq.2]; exact kk)
theorem j_qV3 {x0 x1 x2 : Value} {idx j ci : Nat} {T : u_T} {N : Nat} {Q' : Option Value → St → Prop} (hd : decode mi.2.1 pc = .ok (.invokevirtual idx, 3)) (hl : Cond.methodLink mi.1.cls idx mi'.1 ∈ TT) (hc : CalV mi' 3) (hj : ck j = (0, ci)) (hj1 : j < 100) (hci : zz_Cl[ci]? = some (mi'.1.cls, T, N)) (hlen : (lg_sl [.ref (a j), x0, x1, x2]).length ≤ mi'.2.2.1) (hrest : (st.map fun v => v.category).sum ≤ 8) (hdd : d' + 1 ≤ d) (hJ : Rq a mi' d' [.ref (a j), x0, x1, x2] S Q') (kk : ∀ r S1, Q' r S1 → J a mi d g (pc + 3) L (r.toList ++ st) S1) : J a mi d g pc L (x2 :: x1 :: x0 :: .ref (a j) :: st) S :=
  j_callV (As := [x0, x1, x2]) hd hl hc hj hj1 hci rfl rfl hlen hrest hdd hJ kk
theorem j_cS3 {x0 x1 x2 : Value} {idx : Nat} {r : Option Value} {S1 : St} (hd : decode mi.2.1 pc = .ok (.invokestatic idx, 3)) (hl : MLk mi idx mi'.1) (hc : CalS mi' 3) (hst : Cond.static mi'.1 ∈ TT) (hlen : (lg_sl [x0, x1, x2]).length ≤ mi'.2.2.1) (hrest : (st.map fun v => v.category).sum ≤ 8) (hdd : d' + 1 ≤ d) (hJ : Rt a mi' d' [x0, x1, x2] S r S1) (kk : J a mi d g (pc + 3) L (r.toList ++ st) S1) : J a mi d g pc L (x2 :: x1 :: x0 :: st) S :=
  j_callS (As := [x0, x1, x2]) hd hl hc hst rfl rfl hlen hrest hdd hJ (fun r' S' hq => by rw [hq.1, hq.2]; exact kk)
theorem j_qS3 {x0 x1 x2 : Value} {idx : Nat} {Q' : Option Value → St → Prop} (hd : decode mi.2.1 pc = .ok (.invokestatic idx, 3)) (hl : MLk mi idx mi'.1) (hc : CalS mi' 3) (hst : Cond.static mi'.1 ∈ TT) (hlen : (lg_sl [x0, x1, x2]).length ≤ mi'.2.2.1) (hrest : (st.map fun v => v.category).sum ≤ 8) (hdd : d' + 1 ≤ d) (hJ : Rq a mi' d' [x0, x1, x2] S Q') (kk : ∀ r S1, Q' r S1 → J a mi d g (pc + 3) L (r.toList ++ st) S1) : J a mi d g pc L (x2 :: x1 :: x0 :: st) S :=
  j_callS (As := [x0, x1, x2]) hd hl hc hst rfl rfl hlen hrest hdd hJ kk
theorem j_cV4 {x0 x1 x2 x3 : Value} {idx j ci : Nat} {T : u_T} {N : Nat} {r : Option Value} {S1 : St} (hd : decode mi.2.1 pc = .ok (.invokevirtual idx, 3)) (hl : Cond.methodLink mi.1.cls idx mi'.1 ∈ TT) (hc : CalV mi' 4) (hj : ck j = (0, ci)) (hj1 : j < 100) (hci : zz_Cl[ci]? = some (mi'.1.cls, T, N)) (hlen : (lg_sl [.ref (a j), x0, x1, x2, x3]).length ≤ mi'.2.2.1) (hrest : (st.map fun v => v.category).sum ≤ 8) (hdd : d' + 1 ≤ d) (hJ : Rt a mi' d' [.ref (a j), x0, x1, x2, x3] S r S1) (kk : J a mi d g (pc + 3) L (r.toList ++ st) S1) : J a mi d g pc L (x3 :: x2 :: x1 :: x0 :: .ref (a j) :: st) S :=
  j_callV (As := [x0, x1, x2, x3]) hd hl hc hj hj1 hci rfl rfl hlen hrest hdd hJ (fun r' S' hq => by rw [hq.1, hq.2]; exact kk)
theorem j_qV4 {x0 x1 x2 x3 : Value} {idx j ci : Nat} {T : u_T} {N : Nat} {Q' : Option Value → St → Prop} (hd : decode mi.2.1 pc = .ok (.invokevirtual idx, 3)) (hl : Cond.methodLink mi.1.cls idx mi'.1 ∈ TT) (hc : CalV mi' 4) (hj : ck j = (0, ci)) (hj1 : j < 100) (hci : zz_Cl[ci]? = some (mi'.1.cls, T, N)) (hlen : (lg_sl [.ref (a j), x0, x1, x2, x3]).length ≤ mi'.2.2.1) (hrest : (st.map fun v => v.category).sum ≤ 8) (hdd : d' + 1 ≤ d) (hJ : Rq a mi' d' [.ref (a j), x0, x1, x2, x3] S Q') (kk : ∀ r S1, Q' r S1 → J a mi d g (pc + 3) L (r.toList ++ st) S1) : J a mi d g pc L (x3 :: x2 :: x1 :: x0 :: .ref (a j) :: st) S :=
  j_callV (As := [x0, x1, x2, x3]) hd hl hc hj hj1 hci rfl rfl hlen hrest hdd hJ kk
theorem j_cS4 {x0 x1 x2 x3 : Value} {idx : Nat} {r : Option Value} {S1 : St} (hd : decode mi.2.1 pc = .ok (.invokestatic idx, 3)) (hl : MLk mi idx mi'.1) (hc : CalS mi' 4) (hst : Cond.static mi'.1 ∈ TT) (hlen : (lg_sl [x0, x1, x2, x3]).length ≤ mi'.2.2.1) (hrest : (st.map fun v => v.category).sum ≤ 8) (hdd : d' + 1 ≤ d) (hJ : Rt a mi' d' [x0, x1, x2, x3] S r S1) (kk : J a mi d g (pc + 3) L (r.toList ++ st) S1) : J a mi d g pc L (x3 :: x2 :: x1 :: x0 :: st) S :=
  j_callS (As := [x0, x1, x2, x3]) hd hl hc hst rfl rfl hlen hrest hdd hJ (fun r' S' hq => by rw [hq.1, hq.2]; exact kk)
theorem j_qS4 {x0 x1 x2 x3 : Value} {idx : Nat} {Q' : Option Value → St → Prop} (hd : decode mi.2.1 pc = .ok (.invokestatic idx, 3)) (hl : MLk mi idx mi'.1) (hc : CalS mi' 4) (hst : Cond.static mi'.1 ∈ TT) (hlen : (lg_sl [x0, x1, x2, x3]).length ≤ mi'.2.2.1) (hrest : (st.map fun v => v.category).sum ≤ 8) (hdd : d' + 1 ≤ d) (hJ : Rq a mi' d' [x0, x1, x2, x3] S Q') (kk : ∀ r S1, Q' r S1 → J a mi d g (pc + 3) L (r.toList ++ st) S1) : J a mi d g pc L (x3 :: x2 :: x1 :: x0 :: st) S :=
  j_callS (As := [x0, x1, x2, x3]) hd hl hc hst rfl rfl hlen hrest hdd hJ kk
theorem j_cV5 {x0 x1 x2 x3 x4 : Value} {idx j ci : Nat} {T : u_T} {N : Nat} {r : Option Value} {S1 : St} (hd : decode mi.2.1 pc = .ok (.invokevirtual idx, 3)) (hl : Cond.methodLink mi.1.cls idx mi'.1 ∈ TT) (hc : CalV mi' 5) (hj : ck j = (0, ci)) (hj1 : j < 100) (hci : zz_Cl[ci]? = some (mi'.1.cls, T, N)) (hlen : (lg_sl [.ref (a j), x0, x1, x2, x3, x4]).length ≤ mi'.2.2.1) (hrest : (st.map fun v => v.category).sum ≤ 8) (hdd : d' + 1 ≤ d) (hJ : Rt a mi' d' [.ref (a j), x0, x1, x2, x3, x4] S r S1) (kk : J a mi d g (pc + 3) L (r.toList ++ st) S1) : J a mi d g pc L (x4 :: x3 :: x2 :: x1 :: x0 :: .ref (a j) :: st) S :=
  j_callV (As := [x0, x1, x2, x3, x4]) hd hl hc hj hj1 hci rfl rfl hlen hrest hdd hJ (fun r' S' hq => by rw [hq.1, hq.2]; exact kk)
theorem j_qV5 {x0 x1 x2 x3 x4 : Value} {idx j ci : Nat} {T : u_T} {N : Nat} {Q' : Option Value → St → Prop} (hd : decode mi.2.1 pc = .ok (.invokevirtual idx, 3)) (hl : Cond.methodLink mi.1.cls idx mi'.1 ∈ TT) (hc : CalV mi' 5) (hj : ck j = (0, ci)) (hj1 : j < 100) (hci : zz_Cl[ci]? = some (mi'.1.cls, T, N)) (hlen : (lg_sl [.ref (a j), x0, x1, x2, x3, x4]).length ≤ mi'.2.2.1) (hrest : (st.map fun v => v.category).sum ≤ 8) (hdd : d' + 1 ≤ d) (hJ : Rq a mi' d' [.ref (a j), x0, x1, x2, x3, x4] S Q') (kk : ∀ r S1, Q' r S1 → J a mi d g (pc + 3) L (r.toList ++ st) S1) : J a mi d g pc L (x4 :: x3 :: x2 :: x1 :: x0 :: .ref (a j) :: st) S :=
  j_callV (As := [x0, x1, x2, x3, x4]) hd hl hc hj hj1 hci rfl rfl hlen hrest hdd hJ kk
theorem j_cS5 {x0 x1 x2 x3 x4 : Value} {idx : Nat} {r : Option Value} {S1 : St} (hd : decode mi.2.1 pc = .ok (.invokestatic idx, 3)) (hl : MLk mi idx mi'.1) (hc : CalS mi' 5) (hst : Cond.static mi'.1 ∈ TT) (hlen : (lg_sl [x0, x1, x2, x3, x4]).length ≤ mi'.2.2.1) (hrest : (st.map fun v => v.category).sum ≤ 8) (hdd : d' + 1 ≤ d) (hJ : Rt a mi' d' [x0, x1, x2, x3, x4] S r S1) (kk : J a mi d g (pc + 3) L (r.toList ++ st) S1) : J a mi d g pc L (x4 :: x3 :: x2 :: x1 :: x0 :: st) S :=
  j_callS (As := [x0, x1, x2, x3, x4]) hd hl hc hst rfl rfl hlen hrest hdd hJ (fun r' S' hq => by rw [hq.1, hq.2]; exact kk)
theorem j_qS5 {x0 x1 x2 x3 x4 : Value} {idx : Nat} {Q' : Option Value → St → Prop} (hd : decode mi.2.1 pc = .ok (.invokestatic idx, 3)) (hl : MLk mi idx mi'.1) (hc : CalS mi' 5) (hst : Cond.static mi'.1 ∈ TT) (hlen : (lg_sl [x0, x1, x2, x3, x4]).length ≤ mi'.2.2.1) (hrest : (st.map fun v => v.category).sum ≤ 8) (hdd : d' + 1 ≤ d) (hJ : Rq a mi' d' [x0, x1, x2, x3, x4] S Q') (kk : ∀ r S1, Q' r S1 → J a mi d g (pc + 3) L (r.toList ++ st) S1) : J a mi d g pc L (x4 :: x3 :: x2 :: x1 :: x0 :: st) S :=
  j_callS (As := [x0, x1, x2, x3, x4]) hd hl hc hst rfl rfl hlen hrest hdd hJ kk
end Calls
end
