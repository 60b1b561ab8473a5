/-- the name of a private method of the class, as the table has it -/
def lw_nm : String := match tables_1_3[173]? with
  | some (Cond.privateMethod q) => q.name
  | _ => ""
-- ===== PART A: goes FIRST, ahead of the names: the tables' words, and 'selects' of the private methods out of them =====
/-- a private method of a class that the tables say can be made, by its rows of tables_1 -/
def lw_okq (q : MethodName × Nat) : Prop := (q.1.cls ≠ "java/lang/invoke/MethodHandle" ∧ q.1.cls ≠ "java/lang/invoke/VarHandle") ∧ Cond.instantiable q.1.cls q.2 ∈ tables_1 ∧ Cond.privateMethod q.1 ∈ tables_1 ∧ Cond.instanceMethod q.1 ∈ tables_1
theorem lw_p0 : lw_okq (⟨"RaisedTableaux$Tape", "isDigit", "(II)Z"⟩, 5) := ⟨⟨by decide +kernel, by decide +kernel⟩, List.mem_of_getElem? (i := 98) (by decide +kernel), List.mem_of_getElem? (i := 394) (by decide +kernel), List.mem_of_getElem? (i := 395) (by decide +kernel)⟩
theorem lw_p1 : lw_okq (⟨"RaisedTableaux$Grid", "cellAt", "(II)I"⟩, 5) := ⟨⟨by decide +kernel, by decide +kernel⟩, List.mem_of_getElem? (i := 134) (by decide +kernel), List.mem_of_getElem? (i := 402) (by decide +kernel), List.mem_of_getElem? (i := 403) (by decide +kernel)⟩
theorem lw_p2 : lw_okq (⟨"RaisedTableaux", "isHeld", "(I)Z"⟩, 14) := ⟨⟨by decide +kernel, by decide +kernel⟩, List.mem_of_getElem? (i := 23) (by decide +kernel), List.mem_of_getElem? (i := 426) (by decide +kernel), List.mem_of_getElem? (i := 427) (by decide +kernel)⟩
theorem lw_p3 : lw_okq (⟨"RaisedTableaux$Thing", "numberFrom", "(II)I"⟩, 5) := ⟨⟨by decide +kernel, by decide +kernel⟩, List.mem_of_getElem? (i := 38) (by decide +kernel), List.mem_of_getElem? (i := 439) (by decide +kernel), List.mem_of_getElem? (i := 440) (by decide +kernel)⟩
theorem lw_p4 : lw_okq (⟨"RaisedTableaux", "isStep", "(I)Z"⟩, 14) := ⟨⟨by decide +kernel, by decide +kernel⟩, List.mem_of_getElem? (i := 23) (by decide +kernel), List.mem_of_getElem? (i := 463) (by decide +kernel), List.mem_of_getElem? (i := 464) (by decide +kernel)⟩
theorem lw_p5 : lw_okq (⟨"RaisedTableaux$Moves", "lookFromLeft", "(LRaisedTableaux$Thing;I)V"⟩, 6) := ⟨⟨by decide +kernel, by decide +kernel⟩, List.mem_of_getElem? (i := 126) (by decide +kernel), List.mem_of_getElem? (i := 471) (by decide +kernel), List.mem_of_getElem? (i := 472) (by decide +kernel)⟩
theorem lw_p6 : lw_okq (⟨"RaisedTableaux$Moves", "lookFromRight", "(LRaisedTableaux$Thing;I)V"⟩, 6) := ⟨⟨by decide +kernel, by decide +kernel⟩, List.mem_of_getElem? (i := 126) (by decide +kernel), List.mem_of_getElem? (i := 475) (by decide +kernel), List.mem_of_getElem? (i := 476) (by decide +kernel)⟩
theorem lw_p7 : lw_okq (⟨"RaisedTableaux$Moves", "turn", "(LRaisedTableaux$Thing;I)V"⟩, 6) := ⟨⟨by decide +kernel, by decide +kernel⟩, List.mem_of_getElem? (i := 126) (by decide +kernel), List.mem_of_getElem? (i := 496) (by decide +kernel), List.mem_of_getElem? (i := 497) (by decide +kernel)⟩
theorem lw_p8 : lw_okq (⟨"RaisedTableaux$Grid", "insertLetter", "(I)V"⟩, 5) := ⟨⟨by decide +kernel, by decide +kernel⟩, List.mem_of_getElem? (i := 134) (by decide +kernel), List.mem_of_getElem? (i := 505) (by decide +kernel), List.mem_of_getElem? (i := 506) (by decide +kernel)⟩
theorem lw_p9 : lw_okq (⟨"RaisedTableaux$Grid", "firstGreater", "(II)I"⟩, 5) := ⟨⟨by decide +kernel, by decide +kernel⟩, List.mem_of_getElem? (i := 134) (by decide +kernel), List.mem_of_getElem? (i := 509) (by decide +kernel), List.mem_of_getElem? (i := 510) (by decide +kernel)⟩
theorem lw_p10 : lw_okq (⟨"RaisedTableaux$Moves", "moveAlong", "(ILRaisedTableaux$Thing;I)V"⟩, 6) := ⟨⟨by decide +kernel, by decide +kernel⟩, List.mem_of_getElem? (i := 126) (by decide +kernel), List.mem_of_getElem? (i := 515) (by decide +kernel), List.mem_of_getElem? (i := 516) (by decide +kernel)⟩
theorem lw_p11 : lw_okq (⟨"RaisedTableaux$Moves", "raiseTimes", "(LRaisedTableaux$Thing;II)V"⟩, 6) := ⟨⟨by decide +kernel, by decide +kernel⟩, List.mem_of_getElem? (i := 126) (by decide +kernel), List.mem_of_getElem? (i := 520) (by decide +kernel), List.mem_of_getElem? (i := 521) (by decide +kernel)⟩
theorem lw_p12 : lw_okq (⟨"RaisedTableaux$Moves", "lowerTimes", "(LRaisedTableaux$Thing;II)V"⟩, 6) := ⟨⟨by decide +kernel, by decide +kernel⟩, List.mem_of_getElem? (i := 126) (by decide +kernel), List.mem_of_getElem? (i := 524) (by decide +kernel), List.mem_of_getElem? (i := 525) (by decide +kernel)⟩
theorem lw_p13 : lw_okq (⟨"RaisedTableaux$Tape", "readsName", "()Z"⟩, 5) := ⟨⟨by decide +kernel, by decide +kernel⟩, List.mem_of_getElem? (i := 98) (by decide +kernel), List.mem_of_getElem? (i := 542) (by decide +kernel), List.mem_of_getElem? (i := 543) (by decide +kernel)⟩
theorem lw_p14 : lw_okq (⟨"RaisedTableaux$Tape", "endOfName", "()I"⟩, 5) := ⟨⟨by decide +kernel, by decide +kernel⟩, List.mem_of_getElem? (i := 98) (by decide +kernel), List.mem_of_getElem? (i := 546) (by decide +kernel), List.mem_of_getElem? (i := 547) (by decide +kernel)⟩
theorem lw_p15 : lw_okq (⟨"RaisedTableaux$Tape", "isName", "(Ljava/lang/String;I)Z"⟩, 5) := ⟨⟨by decide +kernel, by decide +kernel⟩, List.mem_of_getElem? (i := 98) (by decide +kernel), List.mem_of_getElem? (i := 559) (by decide +kernel), List.mem_of_getElem? (i := 560) (by decide +kernel)⟩
def lw_privs_1 : List (MethodName × Nat) := [(⟨"RaisedTableaux$Tape", "isDigit", "(II)Z"⟩, 5), (⟨"RaisedTableaux$Grid", "cellAt", "(II)I"⟩, 5), (⟨"RaisedTableaux", "isHeld", "(I)Z"⟩, 14), (⟨"RaisedTableaux$Thing", "numberFrom", "(II)I"⟩, 5), (⟨"RaisedTableaux", "isStep", "(I)Z"⟩, 14), (⟨"RaisedTableaux$Moves", "lookFromLeft", "(LRaisedTableaux$Thing;I)V"⟩, 6), (⟨"RaisedTableaux$Moves", "lookFromRight", "(LRaisedTableaux$Thing;I)V"⟩, 6), (⟨"RaisedTableaux$Moves", "turn", "(LRaisedTableaux$Thing;I)V"⟩, 6), (⟨"RaisedTableaux$Grid", "insertLetter", "(I)V"⟩, 5), (⟨"RaisedTableaux$Grid", "firstGreater", "(II)I"⟩, 5), (⟨"RaisedTableaux$Moves", "moveAlong", "(ILRaisedTableaux$Thing;I)V"⟩, 6), (⟨"RaisedTableaux$Moves", "raiseTimes", "(LRaisedTableaux$Thing;II)V"⟩, 6), (⟨"RaisedTableaux$Moves", "lowerTimes", "(LRaisedTableaux$Thing;II)V"⟩, 6), (⟨"RaisedTableaux$Tape", "readsName", "()Z"⟩, 5), (⟨"RaisedTableaux$Tape", "endOfName", "()I"⟩, 5), (⟨"RaisedTableaux$Tape", "isName", "(Ljava/lang/String;I)Z"⟩, 5)]
theorem lw_r1 : ∀ q ∈ lw_privs_1, lw_okq q := List.forall_mem_cons.mpr ⟨lw_p0, List.forall_mem_cons.mpr ⟨lw_p1, List.forall_mem_cons.mpr ⟨lw_p2, List.forall_mem_cons.mpr ⟨lw_p3, List.forall_mem_cons.mpr ⟨lw_p4, List.forall_mem_cons.mpr ⟨lw_p5, List.forall_mem_cons.mpr ⟨lw_p6, List.forall_mem_cons.mpr ⟨lw_p7, List.forall_mem_cons.mpr ⟨lw_p8, List.forall_mem_cons.mpr ⟨lw_p9, List.forall_mem_cons.mpr ⟨lw_p10, List.forall_mem_cons.mpr ⟨lw_p11, List.forall_mem_cons.mpr ⟨lw_p12, List.forall_mem_cons.mpr ⟨lw_p13, List.forall_mem_cons.mpr ⟨lw_p14, List.forall_mem_cons.mpr ⟨lw_p15, fun _ h => absurd h List.not_mem_nil⟩⟩⟩⟩⟩⟩⟩⟩⟩⟩⟩⟩⟩⟩⟩⟩
theorem lw_p16 : lw_okq (⟨"RaisedTableaux$Tape", "readsStep", "(I)Z"⟩, 5) := ⟨⟨by decide +kernel, by decide +kernel⟩, List.mem_of_getElem? (i := 98) (by decide +kernel), List.mem_of_getElem? (i := 611) (by decide +kernel), List.mem_of_getElem? (i := 612) (by decide +kernel)⟩
theorem lw_p17 : lw_okq (⟨"RaisedTableaux$Tape", "readsSemicolon", "()Z"⟩, 5) := ⟨⟨by decide +kernel, by decide +kernel⟩, List.mem_of_getElem? (i := 98) (by decide +kernel), List.mem_of_getElem? (i := 615) (by decide +kernel), List.mem_of_getElem? (i := 616) (by decide +kernel)⟩
theorem lw_p18 : lw_okq (⟨"RaisedTableaux$Moves", "raisesForLeast", "(LRaisedTableaux$Thing;I)Z"⟩, 6) := ⟨⟨by decide +kernel, by decide +kernel⟩, List.mem_of_getElem? (i := 126) (by decide +kernel), List.mem_of_getElem? (i := 628) (by decide +kernel), List.mem_of_getElem? (i := 629) (by decide +kernel)⟩
theorem lw_p19 : lw_okq (⟨"RaisedTableaux$Family", "codeOf", "(LRaisedTableaux$Thing;)I"⟩, 7) := ⟨⟨by decide +kernel, by decide +kernel⟩, List.mem_of_getElem? (i := 180) (by decide +kernel), List.mem_of_getElem? (i := 640) (by decide +kernel), List.mem_of_getElem? (i := 641) (by decide +kernel)⟩
theorem lw_p20 : lw_okq (⟨"RaisedTableaux$Family", "isMarked", "(I)Z"⟩, 7) := ⟨⟨by decide +kernel, by decide +kernel⟩, List.mem_of_getElem? (i := 180) (by decide +kernel), List.mem_of_getElem? (i := 644) (by decide +kernel), List.mem_of_getElem? (i := 645) (by decide +kernel)⟩
theorem lw_p21 : lw_okq (⟨"RaisedTableaux$Family", lw_nm, "(I)V"⟩, 7) := ⟨⟨by decide +kernel, by decide +kernel⟩, List.mem_of_getElem? (i := 180) (by decide +kernel), List.mem_of_getElem? (i := 653) (by decide +kernel), List.mem_of_getElem? (i := 654) (by decide +kernel)⟩
theorem lw_p22 : lw_okq (⟨"RaisedTableaux$Family", "readCode", "(I)V"⟩, 7) := ⟨⟨by decide +kernel, by decide +kernel⟩, List.mem_of_getElem? (i := 180) (by decide +kernel), List.mem_of_getElem? (i := 657) (by decide +kernel), List.mem_of_getElem? (i := 658) (by decide +kernel)⟩
theorem lw_p23 : lw_okq (⟨"RaisedTableaux$Family", "admitLowered", "(LRaisedTableaux$Moves;)V"⟩, 7) := ⟨⟨by decide +kernel, by decide +kernel⟩, List.mem_of_getElem? (i := 180) (by decide +kernel), List.mem_of_getElem? (i := 662) (by decide +kernel), List.mem_of_getElem? (i := 663) (by decide +kernel)⟩
theorem lw_p24 : lw_okq (⟨"RaisedTableaux$Moves", "lowersForLeast", "(LRaisedTableaux$Thing;I)Z"⟩, 6) := ⟨⟨by decide +kernel, by decide +kernel⟩, List.mem_of_getElem? (i := 126) (by decide +kernel), List.mem_of_getElem? (i := 704) (by decide +kernel), List.mem_of_getElem? (i := 705) (by decide +kernel)⟩
theorem lw_p25 : lw_okq (⟨"RaisedTableaux", "meetInTwo", "(LRaisedTableaux$Thing;II)Z"⟩, 14) := ⟨⟨by decide +kernel, by decide +kernel⟩, List.mem_of_getElem? (i := 23) (by decide +kernel), List.mem_of_getElem? (i := 716) (by decide +kernel), List.mem_of_getElem? (i := 717) (by decide +kernel)⟩
theorem lw_p26 : lw_okq (⟨"RaisedTableaux", "meetInFour", "(LRaisedTableaux$Thing;II)Z"⟩, 14) := ⟨⟨by decide +kernel, by decide +kernel⟩, List.mem_of_getElem? (i := 23) (by decide +kernel), List.mem_of_getElem? (i := 722) (by decide +kernel), List.mem_of_getElem? (i := 723) (by decide +kernel)⟩
theorem lw_p27 : lw_okq (⟨"RaisedTableaux", "raisesOutAndBack", "(LRaisedTableaux$Thing;II)Z"⟩, 14) := ⟨⟨by decide +kernel, by decide +kernel⟩, List.mem_of_getElem? (i := 23) (by decide +kernel), List.mem_of_getElem? (i := 726) (by decide +kernel), List.mem_of_getElem? (i := 727) (by decide +kernel)⟩
theorem lw_p28 : lw_okq (⟨"RaisedTableaux$Fillings", "counts", "(LRaisedTableaux$Shape;)Z"⟩, 7) := ⟨⟨by decide +kernel, by decide +kernel⟩, List.mem_of_getElem? (i := 212) (by decide +kernel), List.mem_of_getElem? (i := 778) (by decide +kernel), List.mem_of_getElem? (i := 779) (by decide +kernel)⟩
theorem lw_p29 : lw_okq (⟨"RaisedTableaux$Fillings", "join", "(LRaisedTableaux$Shape;LRaisedTableaux$Shape;)V"⟩, 7) := ⟨⟨by decide +kernel, by decide +kernel⟩, List.mem_of_getElem? (i := 212) (by decide +kernel), List.mem_of_getElem? (i := 782) (by decide +kernel), List.mem_of_getElem? (i := 783) (by decide +kernel)⟩
theorem lw_p30 : lw_okq (⟨"RaisedTableaux$Fillings", "leastLetter", "(LRaisedTableaux$Shape;III)I"⟩, 7) := ⟨⟨by decide +kernel, by decide +kernel⟩, List.mem_of_getElem? (i := 212) (by decide +kernel), List.mem_of_getElem? (i := 797) (by decide +kernel), List.mem_of_getElem? (i := 798) (by decide +kernel)⟩
theorem lw_p31 : lw_okq (⟨"RaisedTableaux", "isLetter", "(I)Z"⟩, 14) := ⟨⟨by decide +kernel, by decide +kernel⟩, List.mem_of_getElem? (i := 23) (by decide +kernel), List.mem_of_getElem? (i := 818) (by decide +kernel), List.mem_of_getElem? (i := 819) (by decide +kernel)⟩
def lw_privs_2 : List (MethodName × Nat) := [(⟨"RaisedTableaux$Tape", "readsStep", "(I)Z"⟩, 5), (⟨"RaisedTableaux$Tape", "readsSemicolon", "()Z"⟩, 5), (⟨"RaisedTableaux$Moves", "raisesForLeast", "(LRaisedTableaux$Thing;I)Z"⟩, 6), (⟨"RaisedTableaux$Family", "codeOf", "(LRaisedTableaux$Thing;)I"⟩, 7), (⟨"RaisedTableaux$Family", "isMarked", "(I)Z"⟩, 7), (⟨"RaisedTableaux$Family", lw_nm, "(I)V"⟩, 7), (⟨"RaisedTableaux$Family", "readCode", "(I)V"⟩, 7), (⟨"RaisedTableaux$Family", "admitLowered", "(LRaisedTableaux$Moves;)V"⟩, 7), (⟨"RaisedTableaux$Moves", "lowersForLeast", "(LRaisedTableaux$Thing;I)Z"⟩, 6), (⟨"RaisedTableaux", "meetInTwo", "(LRaisedTableaux$Thing;II)Z"⟩, 14), (⟨"RaisedTableaux", "meetInFour", "(LRaisedTableaux$Thing;II)Z"⟩, 14), (⟨"RaisedTableaux", "raisesOutAndBack", "(LRaisedTableaux$Thing;II)Z"⟩, 14), (⟨"RaisedTableaux$Fillings", "counts", "(LRaisedTableaux$Shape;)Z"⟩, 7), (⟨"RaisedTableaux$Fillings", "join", "(LRaisedTableaux$Shape;LRaisedTableaux$Shape;)V"⟩, 7), (⟨"RaisedTableaux$Fillings", "leastLetter", "(LRaisedTableaux$Shape;III)I"⟩, 7), (⟨"RaisedTableaux", "isLetter", "(I)Z"⟩, 14)]
theorem lw_r2 : ∀ q ∈ lw_privs_2, lw_okq q := List.forall_mem_cons.mpr ⟨lw_p16, List.forall_mem_cons.mpr ⟨lw_p17, List.forall_mem_cons.mpr ⟨lw_p18, List.forall_mem_cons.mpr ⟨lw_p19, List.forall_mem_cons.mpr ⟨lw_p20, List.forall_mem_cons.mpr ⟨lw_p21, List.forall_mem_cons.mpr ⟨lw_p22, List.forall_mem_cons.mpr ⟨lw_p23, List.forall_mem_cons.mpr ⟨lw_p24, List.forall_mem_cons.mpr ⟨lw_p25, List.forall_mem_cons.mpr ⟨lw_p26, List.forall_mem_cons.mpr ⟨lw_p27, List.forall_mem_cons.mpr ⟨lw_p28, List.forall_mem_cons.mpr ⟨lw_p29, List.forall_mem_cons.mpr ⟨lw_p30, List.forall_mem_cons.mpr ⟨lw_p31, fun _ h => absurd h List.not_mem_nil⟩⟩⟩⟩⟩⟩⟩⟩⟩⟩⟩⟩⟩⟩⟩⟩
theorem lw_p32 : lw_okq (⟨"RaisedTableauxModel", "isWord", "(I)Z"⟩, 46) := ⟨⟨by decide +kernel, by decide +kernel⟩, List.mem_of_getElem? (i := 924) (by decide +kernel), List.mem_of_getElem? (i := 1083) (by decide +kernel), List.mem_of_getElem? (i := 1084) (by decide +kernel)⟩
theorem lw_p33 : lw_okq (⟨"RaisedTableauxModel", "lays", "(I)V"⟩, 46) := ⟨⟨by decide +kernel, by decide +kernel⟩, List.mem_of_getElem? (i := 924) (by decide +kernel), List.mem_of_getElem? (i := 1087) (by decide +kernel), List.mem_of_getElem? (i := 1088) (by decide +kernel)⟩
theorem lw_p34 : lw_okq (⟨"RaisedTableauxModel", "here", "()I"⟩, 46) := ⟨⟨by decide +kernel, by decide +kernel⟩, List.mem_of_getElem? (i := 924) (by decide +kernel), List.mem_of_getElem? (i := 1100) (by decide +kernel), List.mem_of_getElem? (i := 1101) (by decide +kernel)⟩
theorem lw_p35 : lw_okq (⟨"RaisedTableauxModel", "mayStand", "(III)Z"⟩, 46) := ⟨⟨by decide +kernel, by decide +kernel⟩, List.mem_of_getElem? (i := 924) (by decide +kernel), List.mem_of_getElem? (i := 1104) (by decide +kernel), List.mem_of_getElem? (i := 1105) (by decide +kernel)⟩
theorem lw_p36 : lw_okq (⟨"RaisedTableauxModel", "fault", "()I"⟩, 46) := ⟨⟨by decide +kernel, by decide +kernel⟩, List.mem_of_getElem? (i := 924) (by decide +kernel), List.mem_of_getElem? (i := 1108) (by decide +kernel), List.mem_of_getElem? (i := 1109) (by decide +kernel)⟩
theorem lw_p37 : lw_okq (⟨"RaisedTableauxModel", "readsCells", "()V"⟩, 46) := ⟨⟨by decide +kernel, by decide +kernel⟩, List.mem_of_getElem? (i := 924) (by decide +kernel), List.mem_of_getElem? (i := 1112) (by decide +kernel), List.mem_of_getElem? (i := 1113) (by decide +kernel)⟩
theorem lw_p38 : lw_okq (⟨"RaisedTableauxModel", "takes", "(I)V"⟩, 46) := ⟨⟨by decide +kernel, by decide +kernel⟩, List.mem_of_getElem? (i := 924) (by decide +kernel), List.mem_of_getElem? (i := 1124) (by decide +kernel), List.mem_of_getElem? (i := 1125) (by decide +kernel)⟩
theorem lw_p39 : lw_okq (⟨"RaisedTableauxModel", "read", "()I"⟩, 46) := ⟨⟨by decide +kernel, by decide +kernel⟩, List.mem_of_getElem? (i := 924) (by decide +kernel), List.mem_of_getElem? (i := 1128) (by decide +kernel), List.mem_of_getElem? (i := 1129) (by decide +kernel)⟩
theorem lw_p40 : lw_okq (⟨"RaisedTableauxModel", "content", "()I"⟩, 46) := ⟨⟨by decide +kernel, by decide +kernel⟩, List.mem_of_getElem? (i := 924) (by decide +kernel), List.mem_of_getElem? (i := 1132) (by decide +kernel), List.mem_of_getElem? (i := 1133) (by decide +kernel)⟩
theorem lw_p41 : lw_okq (⟨"RaisedTableauxModel", "manyRows", "()I"⟩, 46) := ⟨⟨by decide +kernel, by decide +kernel⟩, List.mem_of_getElem? (i := 924) (by decide +kernel), List.mem_of_getElem? (i := 1136) (by decide +kernel), List.mem_of_getElem? (i := 1137) (by decide +kernel)⟩
theorem lw_p42 : lw_okq (⟨"RaisedTableauxModel", "isSign", "(I)Z"⟩, 46) := ⟨⟨by decide +kernel, by decide +kernel⟩, List.mem_of_getElem? (i := 924) (by decide +kernel), List.mem_of_getElem? (i := 1152) (by decide +kernel), List.mem_of_getElem? (i := 1153) (by decide +kernel)⟩
theorem lw_p43 : lw_okq (⟨"RaisedTableauxModel", "looks", "(I)V"⟩, 46) := ⟨⟨by decide +kernel, by decide +kernel⟩, List.mem_of_getElem? (i := 924) (by decide +kernel), List.mem_of_getElem? (i := 1156) (by decide +kernel), List.mem_of_getElem? (i := 1157) (by decide +kernel)⟩
theorem lw_p44 : lw_okq (⟨"RaisedTableauxModel", "acts", "(II)Z"⟩, 46) := ⟨⟨by decide +kernel, by decide +kernel⟩, List.mem_of_getElem? (i := 924) (by decide +kernel), List.mem_of_getElem? (i := 1164) (by decide +kernel), List.mem_of_getElem? (i := 1165) (by decide +kernel)⟩
theorem lw_p45 : lw_okq (⟨"RaisedTableauxModel", "raises", "(I)Z"⟩, 46) := ⟨⟨by decide +kernel, by decide +kernel⟩, List.mem_of_getElem? (i := 924) (by decide +kernel), List.mem_of_getElem? (i := 1168) (by decide +kernel), List.mem_of_getElem? (i := 1169) (by decide +kernel)⟩
theorem lw_p46 : lw_okq (⟨"RaisedTableauxModel", "lowers", "(I)Z"⟩, 46) := ⟨⟨by decide +kernel, by decide +kernel⟩, List.mem_of_getElem? (i := 924) (by decide +kernel), List.mem_of_getElem? (i := 1172) (by decide +kernel), List.mem_of_getElem? (i := 1173) (by decide +kernel)⟩
theorem lw_p47 : lw_okq (⟨"RaisedTableauxModel", "turns", "()V"⟩, 46) := ⟨⟨by decide +kernel, by decide +kernel⟩, List.mem_of_getElem? (i := 924) (by decide +kernel), List.mem_of_getElem? (i := 1176) (by decide +kernel), List.mem_of_getElem? (i := 1177) (by decide +kernel)⟩
def lw_privs_3 : List (MethodName × Nat) := [(⟨"RaisedTableauxModel", "isWord", "(I)Z"⟩, 46), (⟨"RaisedTableauxModel", "lays", "(I)V"⟩, 46), (⟨"RaisedTableauxModel", "here", "()I"⟩, 46), (⟨"RaisedTableauxModel", "mayStand", "(III)Z"⟩, 46), (⟨"RaisedTableauxModel", "fault", "()I"⟩, 46), (⟨"RaisedTableauxModel", "readsCells", "()V"⟩, 46), (⟨"RaisedTableauxModel", "takes", "(I)V"⟩, 46), (⟨"RaisedTableauxModel", "read", "()I"⟩, 46), (⟨"RaisedTableauxModel", "content", "()I"⟩, 46), (⟨"RaisedTableauxModel", "manyRows", "()I"⟩, 46), (⟨"RaisedTableauxModel", "isSign", "(I)Z"⟩, 46), (⟨"RaisedTableauxModel", "looks", "(I)V"⟩, 46), (⟨"RaisedTableauxModel", "acts", "(II)Z"⟩, 46), (⟨"RaisedTableauxModel", "raises", "(I)Z"⟩, 46), (⟨"RaisedTableauxModel", "lowers", "(I)Z"⟩, 46), (⟨"RaisedTableauxModel", "turns", "()V"⟩, 46)]
theorem lw_r3 : ∀ q ∈ lw_privs_3, lw_okq q := List.forall_mem_cons.mpr ⟨lw_p32, List.forall_mem_cons.mpr ⟨lw_p33, List.forall_mem_cons.mpr ⟨lw_p34, List.forall_mem_cons.mpr ⟨lw_p35, List.forall_mem_cons.mpr ⟨lw_p36, List.forall_mem_cons.mpr ⟨lw_p37, List.forall_mem_cons.mpr ⟨lw_p38, List.forall_mem_cons.mpr ⟨lw_p39, List.forall_mem_cons.mpr ⟨lw_p40, List.forall_mem_cons.mpr ⟨lw_p41, List.forall_mem_cons.mpr ⟨lw_p42, List.forall_mem_cons.mpr ⟨lw_p43, List.forall_mem_cons.mpr ⟨lw_p44, List.forall_mem_cons.mpr ⟨lw_p45, List.forall_mem_cons.mpr ⟨lw_p46, List.forall_mem_cons.mpr ⟨lw_p47, fun _ h => absurd h List.not_mem_nil⟩⟩⟩⟩⟩⟩⟩⟩⟩⟩⟩⟩⟩⟩⟩⟩
theorem lw_p48 : lw_okq (⟨"RaisedTableauxModel", "inserts", "()V"⟩, 46) := ⟨⟨by decide +kernel, by decide +kernel⟩, List.mem_of_getElem? (i := 924) (by decide +kernel), List.mem_of_getElem? (i := 1180) (by decide +kernel), List.mem_of_getElem? (i := 1181) (by decide +kernel)⟩
theorem lw_p49 : lw_okq (⟨"RaisedTableauxModel", "readsActs", "()I"⟩, 46) := ⟨⟨by decide +kernel, by decide +kernel⟩, List.mem_of_getElem? (i := 924) (by decide +kernel), List.mem_of_getElem? (i := 1188) (by decide +kernel), List.mem_of_getElem? (i := 1189) (by decide +kernel)⟩
theorem lw_p50 : lw_okq (⟨"RaisedTableauxModel", "name", "()J"⟩, 46) := ⟨⟨by decide +kernel, by decide +kernel⟩, List.mem_of_getElem? (i := 924) (by decide +kernel), List.mem_of_getElem? (i := 1192) (by decide +kernel), List.mem_of_getElem? (i := 1193) (by decide +kernel)⟩
theorem lw_p51 : lw_okq (⟨"RaisedTableauxModel", "highestNow", "()I"⟩, 46) := ⟨⟨by decide +kernel, by decide +kernel⟩, List.mem_of_getElem? (i := 924) (by decide +kernel), List.mem_of_getElem? (i := 1212) (by decide +kernel), List.mem_of_getElem? (i := 1213) (by decide +kernel)⟩
theorem lw_p52 : lw_okq (⟨"RaisedTableauxModel", "findAll", "()V"⟩, 46) := ⟨⟨by decide +kernel, by decide +kernel⟩, List.mem_of_getElem? (i := 924) (by decide +kernel), List.mem_of_getElem? (i := 1220) (by decide +kernel), List.mem_of_getElem? (i := 1221) (by decide +kernel)⟩
theorem lw_p53 : lw_okq (⟨"RaisedTableauxModel", "comesTo", "()V"⟩, 46) := ⟨⟨by decide +kernel, by decide +kernel⟩, List.mem_of_getElem? (i := 924) (by decide +kernel), List.mem_of_getElem? (i := 1224) (by decide +kernel), List.mem_of_getElem? (i := 1225) (by decide +kernel)⟩
theorem lw_p54 : lw_okq (⟨"RaisedTableauxModel", "code", "()I"⟩, 46) := ⟨⟨by decide +kernel, by decide +kernel⟩, List.mem_of_getElem? (i := 924) (by decide +kernel), List.mem_of_getElem? (i := 1228) (by decide +kernel), List.mem_of_getElem? (i := 1229) (by decide +kernel)⟩
theorem lw_p55 : lw_okq (⟨"RaisedTableauxModel", "decodes", "(I)V"⟩, 46) := ⟨⟨by decide +kernel, by decide +kernel⟩, List.mem_of_getElem? (i := 924) (by decide +kernel), List.mem_of_getElem? (i := 1232) (by decide +kernel), List.mem_of_getElem? (i := 1233) (by decide +kernel)⟩
theorem lw_p56 : lw_okq (⟨"RaisedTableauxModel", "raisedBy", "(IIIII)I"⟩, 46) := ⟨⟨by decide +kernel, by decide +kernel⟩, List.mem_of_getElem? (i := 924) (by decide +kernel), List.mem_of_getElem? (i := 1248) (by decide +kernel), List.mem_of_getElem? (i := 1249) (by decide +kernel)⟩
theorem lw_p57 : lw_okq (⟨"RaisedTableauxModel", "inserted", "(I)J"⟩, 46) := ⟨⟨by decide +kernel, by decide +kernel⟩, List.mem_of_getElem? (i := 924) (by decide +kernel), List.mem_of_getElem? (i := 1264) (by decide +kernel), List.mem_of_getElem? (i := 1265) (by decide +kernel)⟩
theorem lw_p58 : lw_okq (⟨"RaisedTableauxModel", "isShape", "(I[I)Z"⟩, 46) := ⟨⟨by decide +kernel, by decide +kernel⟩, List.mem_of_getElem? (i := 924) (by decide +kernel), List.mem_of_getElem? (i := 1273) (by decide +kernel), List.mem_of_getElem? (i := 1274) (by decide +kernel)⟩
theorem lw_p59 : lw_okq (⟨"RaisedTableauxModel", "fillsAll", "(I)V"⟩, 46) := ⟨⟨by decide +kernel, by decide +kernel⟩, List.mem_of_getElem? (i := 924) (by decide +kernel), List.mem_of_getElem? (i := 1277) (by decide +kernel), List.mem_of_getElem? (i := 1278) (by decide +kernel)⟩
theorem lw_p60 : lw_okq (⟨"RaisedTableauxModel", "fills", "(III)V"⟩, 46) := ⟨⟨by decide +kernel, by decide +kernel⟩, List.mem_of_getElem? (i := 924) (by decide +kernel), List.mem_of_getElem? (i := 1281) (by decide +kernel), List.mem_of_getElem? (i := 1282) (by decide +kernel)⟩
theorem lw_p61 : lw_okq (⟨"RaisedTableauxModel", "isFilled", "(I)V"⟩, 46) := ⟨⟨by decide +kernel, by decide +kernel⟩, List.mem_of_getElem? (i := 924) (by decide +kernel), List.mem_of_getElem? (i := 1285) (by decide +kernel), List.mem_of_getElem? (i := 1286) (by decide +kernel)⟩
theorem lw_p62 : lw_okq (⟨"RaisedTableauxModel", "isHighest", "()Z"⟩, 46) := ⟨⟨by decide +kernel, by decide +kernel⟩, List.mem_of_getElem? (i := 924) (by decide +kernel), List.mem_of_getElem? (i := 1289) (by decide +kernel), List.mem_of_getElem? (i := 1290) (by decide +kernel)⟩
theorem lw_p63 : lw_okq (⟨"RaisedTableauxModel", "isOutside", "(III)Z"⟩, 46) := ⟨⟨by decide +kernel, by decide +kernel⟩, List.mem_of_getElem? (i := 924) (by decide +kernel), List.mem_of_getElem? (i := 1341) (by decide +kernel), List.mem_of_getElem? (i := 1342) (by decide +kernel)⟩
def lw_privs_4 : List (MethodName × Nat) := [(⟨"RaisedTableauxModel", "inserts", "()V"⟩, 46), (⟨"RaisedTableauxModel", "readsActs", "()I"⟩, 46), (⟨"RaisedTableauxModel", "name", "()J"⟩, 46), (⟨"RaisedTableauxModel", "highestNow", "()I"⟩, 46), (⟨"RaisedTableauxModel", "findAll", "()V"⟩, 46), (⟨"RaisedTableauxModel", "comesTo", "()V"⟩, 46), (⟨"RaisedTableauxModel", "code", "()I"⟩, 46), (⟨"RaisedTableauxModel", "decodes", "(I)V"⟩, 46), (⟨"RaisedTableauxModel", "raisedBy", "(IIIII)I"⟩, 46), (⟨"RaisedTableauxModel", "inserted", "(I)J"⟩, 46), (⟨"RaisedTableauxModel", "isShape", "(I[I)Z"⟩, 46), (⟨"RaisedTableauxModel", "fillsAll", "(I)V"⟩, 46), (⟨"RaisedTableauxModel", "fills", "(III)V"⟩, 46), (⟨"RaisedTableauxModel", "isFilled", "(I)V"⟩, 46), (⟨"RaisedTableauxModel", "isHighest", "()Z"⟩, 46), (⟨"RaisedTableauxModel", "isOutside", "(III)Z"⟩, 46)]
theorem lw_r4 : ∀ q ∈ lw_privs_4, lw_okq q := List.forall_mem_cons.mpr ⟨lw_p48, List.forall_mem_cons.mpr ⟨lw_p49, List.forall_mem_cons.mpr ⟨lw_p50, List.forall_mem_cons.mpr ⟨lw_p51, List.forall_mem_cons.mpr ⟨lw_p52, List.forall_mem_cons.mpr ⟨lw_p53, List.forall_mem_cons.mpr ⟨lw_p54, List.forall_mem_cons.mpr ⟨lw_p55, List.forall_mem_cons.mpr ⟨lw_p56, List.forall_mem_cons.mpr ⟨lw_p57, List.forall_mem_cons.mpr ⟨lw_p58, List.forall_mem_cons.mpr ⟨lw_p59, List.forall_mem_cons.mpr ⟨lw_p60, List.forall_mem_cons.mpr ⟨lw_p61, List.forall_mem_cons.mpr ⟨lw_p62, List.forall_mem_cons.mpr ⟨lw_p63, fun _ h => absurd h List.not_mem_nil⟩⟩⟩⟩⟩⟩⟩⟩⟩⟩⟩⟩⟩⟩⟩⟩
theorem lw_p64 : lw_okq (⟨"RaisedTableauxModel", "lettersAll", "()I"⟩, 46) := ⟨⟨by decide +kernel, by decide +kernel⟩, List.mem_of_getElem? (i := 924) (by decide +kernel), List.mem_of_getElem? (i := 1357) (by decide +kernel), List.mem_of_getElem? (i := 1358) (by decide +kernel)⟩
def lw_privs_5 : List (MethodName × Nat) := [(⟨"RaisedTableauxModel", "lettersAll", "()I"⟩, 46)]
theorem lw_r5 : ∀ q ∈ lw_privs_5, lw_okq q := List.forall_mem_cons.mpr ⟨lw_p64, fun _ h => absurd h List.not_mem_nil⟩
def lw_privs : List (MethodName × Nat) := lw_privs_1 ++ (lw_privs_2 ++ (lw_privs_3 ++ (lw_privs_4 ++ (lw_privs_5))))
def lw_tbl : List Cond := k2_sels lw_privs ++ tables_1
theorem lw_privs_ok : ∀ q ∈ lw_privs, lw_okq q := by
  show ∀ q ∈ lw_privs_1 ++ (lw_privs_2 ++ (lw_privs_3 ++ (lw_privs_4 ++ (lw_privs_5)))), lw_okq q
  exact List.forall_mem_append.mpr ⟨lw_r1, List.forall_mem_append.mpr ⟨lw_r2, List.forall_mem_append.mpr ⟨lw_r3, List.forall_mem_append.mpr ⟨lw_r4, lw_r5⟩⟩⟩⟩
-- ===== end of PART A; then your names; then what follows =====
/-! ===== BEGIN words of one list among another's, by their places ===== -/
theorem goodIn_r {big : List Cond} (ws : List Cond) (ps : List Nat) (hp : ws = ps.filterMap (fun i => big[i]?)) (h : ws.all goodWord = true) : GoodIn big ws := by
  intro w hw
  have h1 := List.all_eq_true.mp h w hw
  rw [hp] at hw
  obtain ⟨i, -, hi⟩ := List.mem_filterMap.mp hw
  have hm : w ∈ big := by first | exact List.mem_of_getElem? hi | exact List.getElem?_mem hi
  exact ⟨hm, good_of_word h1⟩
theorem goodIn_app {big a b : List Cond} (ha : GoodIn big a) (hb : GoodIn big b) : GoodIn big (a ++ b) := fun w h => (List.mem_append.mp h).elim (ha w) (hb w)
theorem goodIn_ca {big a b : List Cond} {c : Cond} (ha : GoodIn big (c :: a)) (hb : GoodIn big b) : GoodIn big (c :: (a ++ b)) := fun w h => (List.mem_cons.mp h).elim (fun e => ha w (List.mem_cons.mpr (Or.inl e))) (fun h => (List.mem_append.mp h).elim (fun h => ha w (List.mem_cons.mpr (Or.inr h))) (hb w))
theorem goodIn_sub {big ws : List Cond} (hm : ∀ w ∈ ws, w ∈ big) (h : ws.all goodWord = true) : GoodIn big ws := fun w hw => ⟨hm w hw, good_of_word (List.all_eq_true.mp h w hw)⟩
/-! ===== END ===== -/

/-! ===== BEGIN printed: names, fields, word lists, decode rows ===== -/
def RX0 : String := "RaisedTableaux$Family"
def TX0 : u_T := fun k => match k with
  | 0 => ("RaisedTableaux$Family", "members", "I", false)
  | 1 => ("RaisedTableaux$Family", "n", "I", false)
  | 2 => ("RaisedTableaux$Family", "size", "I", false)
  | 3 => ("RaisedTableaux$Family", "marks", "[J", true)
  | 4 => ("RaisedTableaux$Family", "codes", "[I", true)
  | 5 => ("RaisedTableaux$Family", "member", "LRaisedTableaux$Thing;", true)
  | _ => ("RaisedTableaux$Family", "lowered", "LRaisedTableaux$Thing;", true)
def tyX0 : Nat → FieldType := fun k => match k with
  | 0 => .int
  | 1 => .int
  | 2 => .int
  | 3 => .array .long
  | 4 => .array .int
  | 5 => .object "RaisedTableaux$Thing"
  | _ => .object "RaisedTableaux$Thing"
abbrev wsX00 : List Cond := u_ws RX0 TX0 7
theorem nmX0 : ∀ a, a < 7 → ∀ b, b < 7 → a ≠ b → (TX0 a).2.1 ≠ (TX0 b).2.1 := by decide +kernel
theorem tyX0_ok : ∀ k, k < 7 → parseFieldDescriptor (TX0 k).2.2.1 = some (tyX0 k) := by decide +kernel
abbrev cX0_init : ByteArray := prog_2_method_1_code
def yX0_init : MethodName := ⟨RX0, "<init>", "()V"⟩
abbrev cX0_gather : ByteArray := prog_2_method_2_code
def yX0_gather : MethodName := ⟨RX0, "gather", "(LRaisedTableaux$Thing;ILRaisedTableaux$Moves;)V"⟩
abbrev cX0_admitLowered : ByteArray := prog_2_method_3_code
def yX0_admitLowered : MethodName := ⟨RX0, "admitLowered", "(LRaisedTableaux$Moves;)V"⟩
abbrev cX0_admit : ByteArray := prog_2_method_4_code
def yX0_admit : MethodName := ⟨RX0, lw_nm, "(I)V"⟩
abbrev cX0_isMarked : ByteArray := prog_2_method_5_code
def yX0_isMarked : MethodName := ⟨RX0, "isMarked", "(I)Z"⟩
abbrev cX0_codeOf : ByteArray := prog_2_method_6_code
def yX0_codeOf : MethodName := ⟨RX0, "codeOf", "(LRaisedTableaux$Thing;)I"⟩
abbrev cX0_readCode : ByteArray := prog_2_method_7_code
def yX0_readCode : MethodName := ⟨RX0, "readCode", "(I)V"⟩
abbrev cX0_placeOf : ByteArray := prog_2_method_8_code
def yX0_placeOf : MethodName := ⟨RX0, "placeOf", "(LRaisedTableaux$Thing;)I"⟩
abbrev cX0_numberOfMember : ByteArray := prog_2_method_9_code
def yX0_numberOfMember : MethodName := ⟨RX0, "numberOfMember", "(I)I"⟩
abbrev cX0_bitOf : ByteArray := prog_2_method_10_code
def yX0_bitOf : MethodName := ⟨RX0, "bitOf", "(JI)I"⟩
def RX1 : String := "RaisedTableaux$Fillings"
def TX1 : u_T := fun k => match k with
  | 0 => ("RaisedTableaux$Fillings", "allowed", "[I", true)
  | 1 => ("RaisedTableaux$Fillings", "worths", "[I", true)
  | 2 => ("RaisedTableaux$Fillings", "cells", "[I", true)
  | 3 => ("RaisedTableaux$Fillings", "n", "I", false)
  | 4 => ("RaisedTableaux$Fillings", "behind", "LRaisedTableaux$Shape;", false)
  | 5 => ("RaisedTableaux$Fillings", "moves", "LRaisedTableaux$Moves;", false)
  | _ => ("RaisedTableaux$Fillings", "joined", "LRaisedTableaux$Thing;", true)
def tyX1 : Nat → FieldType := fun k => match k with
  | 0 => .array .int
  | 1 => .array .int
  | 2 => .array .int
  | 3 => .int
  | 4 => .object "RaisedTableaux$Shape"
  | 5 => .object "RaisedTableaux$Moves"
  | _ => .object "RaisedTableaux$Thing"
abbrev wsX10 : List Cond := u_ws RX1 TX1 7
theorem nmX1 : ∀ a, a < 7 → ∀ b, b < 7 → a ≠ b → (TX1 a).2.1 ≠ (TX1 b).2.1 := by decide +kernel
theorem tyX1_ok : ∀ k, k < 7 → parseFieldDescriptor (TX1 k).2.2.1 = some (tyX1 k) := by decide +kernel
abbrev cX1_init : ByteArray := prog_3_method_1_code
def yX1_init : MethodName := ⟨RX1, "<init>", "()V"⟩
abbrev cX1_allowAny : ByteArray := prog_3_method_2_code
def yX1_allowAny : MethodName := ⟨RX1, "allowAny", "()V"⟩
abbrev cX1_allowContent : ByteArray := prog_3_method_3_code
def yX1_allowContent : MethodName := ⟨RX1, "allowContent", "(II)Z"⟩
abbrev cX1_allowDifference : ByteArray := prog_3_method_4_code
def yX1_allowDifference : MethodName := ⟨RX1, "allowDifference", "(LRaisedTableaux$Shape;LRaisedTableaux$Shape;)Z"⟩
abbrev cX1_allowedInAll : ByteArray := prog_3_method_5_code
def yX1_allowedInAll : MethodName := ⟨RX1, "allowedInAll", "(I)I"⟩
abbrev cX1_worthOneEach : ByteArray := prog_3_method_6_code
def yX1_worthOneEach : MethodName := ⟨RX1, "worthOneEach", "()V"⟩
abbrev cX1_worthAs : ByteArray := prog_3_method_7_code
def yX1_worthAs : MethodName := ⟨RX1, "worthAs", "([I)V"⟩
abbrev cX1_sum : ByteArray := prog_3_method_8_code
def yX1_sum : MethodName := ⟨RX1, "sum", "(LRaisedTableaux$Shape;I)J"⟩
abbrev cX1_countHighest : ByteArray := prog_3_method_9_code
def yX1_countHighest : MethodName := ⟨RX1, "countHighest", "(LRaisedTableaux$Shape;LRaisedTableaux$Shape;LRaisedTableaux$Moves;I)I"⟩
abbrev cX1_sumFrom : ByteArray := prog_3_method_10_code
def yX1_sumFrom : MethodName := ⟨RX1, "sumFrom", "(LRaisedTableaux$Fillings;LRaisedTableaux$Shape;IIIJ)J"⟩
abbrev cX1_leastLetter : ByteArray := prog_3_method_11_code
def yX1_leastLetter : MethodName := ⟨RX1, "leastLetter", "(LRaisedTableaux$Shape;III)I"⟩
abbrev cX1_counts : ByteArray := prog_3_method_12_code
def yX1_counts : MethodName := ⟨RX1, "counts", "(LRaisedTableaux$Shape;)Z"⟩
abbrev cX1_join : ByteArray := prog_3_method_13_code
def yX1_join : MethodName := ⟨RX1, "join", "(LRaisedTableaux$Shape;LRaisedTableaux$Shape;)V"⟩
def RX2 : String := "RaisedTableaux$Grid"
def TX2 : u_T := fun k => match k with
  | 0 => ("RaisedTableaux$Grid", "rows", "I", false)
  | 1 => ("RaisedTableaux$Grid", "size", "I", false)
  | 2 => ("RaisedTableaux$Grid", "lengths", "[I", true)
  | 3 => ("RaisedTableaux$Grid", "cells", "[I", true)
  | _ => ("RaisedTableaux$Grid", "turns", "[I", true)
def tyX2 : Nat → FieldType := fun k => match k with
  | 0 => .int
  | 1 => .int
  | 2 => .array .int
  | 3 => .array .int
  | _ => .array .int
abbrev wsX20 : List Cond := u_ws RX2 TX2 5
theorem nmX2 : ∀ a, a < 5 → ∀ b, b < 5 → a ≠ b → (TX2 a).2.1 ≠ (TX2 b).2.1 := by decide +kernel
theorem tyX2_ok : ∀ k, k < 5 → parseFieldDescriptor (TX2 k).2.2.1 = some (tyX2 k) := by decide +kernel
abbrev cX2_init : ByteArray := prog_4_method_1_code
def yX2_init : MethodName := ⟨RX2, "<init>", "()V"⟩
abbrev cX2_clear : ByteArray := prog_4_method_2_code
def yX2_clear : MethodName := ⟨RX2, "clear", "()V"⟩
abbrev cX2_hasRow : ByteArray := prog_4_method_3_code
def yX2_hasRow : MethodName := ⟨RX2, "hasRow", "(I)Z"⟩
abbrev cX2_takes : ByteArray := prog_4_method_4_code
def yX2_takes : MethodName := ⟨RX2, "takes", "(II)Z"⟩
abbrev cX2_append : ByteArray := prog_4_method_5_code
def yX2_append : MethodName := ⟨RX2, "append", "(II)V"⟩
abbrev cX2_insertAll : ByteArray := prog_4_method_6_code
def yX2_insertAll : MethodName := ⟨RX2, "insertAll", "(LRaisedTableaux$Thing;)V"⟩
abbrev cX2_insertLetter : ByteArray := prog_4_method_7_code
def yX2_insertLetter : MethodName := ⟨RX2, "insertLetter", "(I)V"⟩
abbrev cX2_firstGreater : ByteArray := prog_4_method_8_code
def yX2_firstGreater : MethodName := ⟨RX2, "firstGreater", "(II)I"⟩
abbrev cX2_cellAt : ByteArray := prog_4_method_9_code
def yX2_cellAt : MethodName := ⟨RX2, "cellAt", "(II)I"⟩
abbrev cX2_writeTo : ByteArray := prog_4_method_10_code
def yX2_writeTo : MethodName := ⟨RX2, "writeTo", "(LRaisedTableaux$Thing;)V"⟩
abbrev cX2_turnsOfRow : ByteArray := prog_4_method_11_code
def yX2_turnsOfRow : MethodName := ⟨RX2, "turnsOfRow", "(I)I"⟩
def RX3 : String := "RaisedTableaux$Moves"
def TX3 : u_T := fun k => match k with
  | 0 => ("RaisedTableaux$Moves", "low", "I", false)
  | 1 => ("RaisedTableaux$Moves", "high", "I", false)
  | 2 => ("RaisedTableaux$Moves", "lastLow", "I", false)
  | 3 => ("RaisedTableaux$Moves", "firstHigh", "I", false)
  | 4 => ("RaisedTableaux$Moves", "before", "LRaisedTableaux$Thing;", true)
  | _ => ("RaisedTableaux$Moves", "grid", "LRaisedTableaux$Grid;", true)
def tyX3 : Nat → FieldType := fun k => match k with
  | 0 => .int
  | 1 => .int
  | 2 => .int
  | 3 => .int
  | 4 => .object "RaisedTableaux$Thing"
  | _ => .object "RaisedTableaux$Grid"
abbrev wsX30 : List Cond := u_ws RX3 TX3 6
theorem nmX3 : ∀ a, a < 6 → ∀ b, b < 6 → a ≠ b → (TX3 a).2.1 ≠ (TX3 b).2.1 := by decide +kernel
theorem tyX3_ok : ∀ k, k < 6 → parseFieldDescriptor (TX3 k).2.2.1 = some (tyX3 k) := by decide +kernel
abbrev cX3_init : ByteArray := prog_5_method_1_code
def yX3_init : MethodName := ⟨RX3, "<init>", "()V"⟩
abbrev cX3_look : ByteArray := prog_5_method_2_code
def yX3_look : MethodName := ⟨RX3, "look", "(LRaisedTableaux$Thing;I)V"⟩
abbrev cX3_lookFromLeft : ByteArray := prog_5_method_3_code
def yX3_lookFromLeft : MethodName := ⟨RX3, "lookFromLeft", "(LRaisedTableaux$Thing;I)V"⟩
abbrev cX3_lookFromRight : ByteArray := prog_5_method_4_code
def yX3_lookFromRight : MethodName := ⟨RX3, "lookFromRight", "(LRaisedTableaux$Thing;I)V"⟩
abbrev cX3_canRaise : ByteArray := prog_5_method_5_code
def yX3_canRaise : MethodName := ⟨RX3, "canRaise", "(LRaisedTableaux$Thing;I)Z"⟩
abbrev cX3_raiseOnce : ByteArray := prog_5_method_6_code
def yX3_raiseOnce : MethodName := ⟨RX3, "raiseOnce", "(LRaisedTableaux$Thing;I)Z"⟩
abbrev cX3_lowerOnce : ByteArray := prog_5_method_7_code
def yX3_lowerOnce : MethodName := ⟨RX3, "lowerOnce", "(LRaisedTableaux$Thing;I)Z"⟩
abbrev cX3_perform : ByteArray := prog_5_method_8_code
def yX3_perform : MethodName := ⟨RX3, "perform", "(ILRaisedTableaux$Thing;II)Z"⟩
abbrev cX3_moveAlong : ByteArray := prog_5_method_9_code
def yX3_moveAlong : MethodName := ⟨RX3, "moveAlong", "(ILRaisedTableaux$Thing;I)V"⟩
abbrev cX3_raiseTimes : ByteArray := prog_5_method_10_code
def yX3_raiseTimes : MethodName := ⟨RX3, "raiseTimes", "(LRaisedTableaux$Thing;II)V"⟩
abbrev cX3_lowerTimes : ByteArray := prog_5_method_11_code
def yX3_lowerTimes : MethodName := ⟨RX3, "lowerTimes", "(LRaisedTableaux$Thing;II)V"⟩
abbrev cX3_turn : ByteArray := prog_5_method_12_code
def yX3_turn : MethodName := ⟨RX3, "turn", "(LRaisedTableaux$Thing;I)V"⟩
abbrev cX3_raiseToHighest : ByteArray := prog_5_method_13_code
def yX3_raiseToHighest : MethodName := ⟨RX3, "raiseToHighest", "(LRaisedTableaux$Thing;I)I"⟩
abbrev cX3_raisesForLeast : ByteArray := prog_5_method_14_code
def yX3_raisesForLeast : MethodName := ⟨RX3, "raisesForLeast", "(LRaisedTableaux$Thing;I)Z"⟩
abbrev cX3_lowerToLowest : ByteArray := prog_5_method_15_code
def yX3_lowerToLowest : MethodName := ⟨RX3, "lowerToLowest", "(LRaisedTableaux$Thing;I)I"⟩
abbrev cX3_lowersForLeast : ByteArray := prog_5_method_16_code
def yX3_lowersForLeast : MethodName := ⟨RX3, "lowersForLeast", "(LRaisedTableaux$Thing;I)Z"⟩
abbrev cX3_isHighest : ByteArray := prog_5_method_17_code
def yX3_isHighest : MethodName := ⟨RX3, "isHighest", "(LRaisedTableaux$Thing;I)Z"⟩
def RX4 : String := "RaisedTableaux$Shape"
def TX4 : u_T := fun k => match k with
  | 0 => ("RaisedTableaux$Shape", "rows", "I", false)
  | 1 => ("RaisedTableaux$Shape", "size", "I", false)
  | _ => ("RaisedTableaux$Shape", "lengths", "[I", true)
def tyX4 : Nat → FieldType := fun k => match k with
  | 0 => .int
  | 1 => .int
  | _ => .array .int
abbrev wsX40 : List Cond := u_ws RX4 TX4 3
theorem nmX4 : ∀ a, a < 3 → ∀ b, b < 3 → a ≠ b → (TX4 a).2.1 ≠ (TX4 b).2.1 := by decide +kernel
theorem tyX4_ok : ∀ k, k < 3 → parseFieldDescriptor (TX4 k).2.2.1 = some (tyX4 k) := by decide +kernel
abbrev cX4_init : ByteArray := prog_6_method_1_code
def yX4_init : MethodName := ⟨RX4, "<init>", "()V"⟩
abbrev cX4_isTold : ByteArray := prog_6_method_2_code
def yX4_isTold : MethodName := ⟨RX4, "isTold", "(II)Z"⟩
abbrev cX4_lengthOf : ByteArray := prog_6_method_3_code
def yX4_lengthOf : MethodName := ⟨RX4, "lengthOf", "(I)I"⟩
def RX5 : String := "RaisedTableaux$Sheet"
def TX5 : u_T := fun k => match k with
  | 0 => ("RaisedTableaux$Sheet", "sort", "I", false)
  | 1 => ("RaisedTableaux$Sheet", "length", "I", false)
  | _ => ("RaisedTableaux$Sheet", "places", "[J", true)
def tyX5 : Nat → FieldType := fun k => match k with
  | 0 => .int
  | 1 => .int
  | _ => .array .long
abbrev wsX50 : List Cond := u_ws RX5 TX5 3
theorem nmX5 : ∀ a, a < 3 → ∀ b, b < 3 → a ≠ b → (TX5 a).2.1 ≠ (TX5 b).2.1 := by decide +kernel
theorem tyX5_ok : ∀ k, k < 3 → parseFieldDescriptor (TX5 k).2.2.1 = some (tyX5 k) := by decide +kernel
abbrev cX5_init : ByteArray := prog_7_method_1_code
def yX5_init : MethodName := ⟨RX5, "<init>", "()V"⟩
abbrev cX5_isMissing : ByteArray := prog_7_method_2_code
def yX5_isMissing : MethodName := ⟨RX5, "isMissing", "()Z"⟩
abbrev cX5_becomeMissing : ByteArray := prog_7_method_3_code
def yX5_becomeMissing : MethodName := ⟨RX5, "becomeMissing", "()V"⟩
abbrev cX5_becomeRow : ByteArray := prog_7_method_4_code
def yX5_becomeRow : MethodName := ⟨RX5, "becomeRow", "(II)V"⟩
abbrev cX5_hasPlaces : ByteArray := prog_7_method_5_code
def yX5_hasPlaces : MethodName := ⟨RX5, "hasPlaces", "(II)Z"⟩
abbrev cX5_write : ByteArray := prog_7_method_6_code
def yX5_write : MethodName := ⟨RX5, "write", "(II)V"⟩
def RX6 : String := "RaisedTableaux$State"
def TX6 : u_T := fun k => match k with
  | 0 => ("RaisedTableaux$State", "n", "I", false)
  | 1 => ("RaisedTableaux$State", "z", "I", false)
  | 2 => ("RaisedTableaux$State", "slots", "[LRaisedTableaux$Thing;", true)
  | _ => ("RaisedTableaux$State", "worths", "[I", true)
def tyX6 : Nat → FieldType := fun k => match k with
  | 0 => .int
  | 1 => .int
  | 2 => .array (.object "RaisedTableaux$Thing")
  | _ => .array .int
abbrev wsX60 : List Cond := u_ws RX6 TX6 4
theorem nmX6 : ∀ a, a < 4 → ∀ b, b < 4 → a ≠ b → (TX6 a).2.1 ≠ (TX6 b).2.1 := by decide +kernel
theorem tyX6_ok : ∀ k, k < 4 → parseFieldDescriptor (TX6 k).2.2.1 = some (tyX6 k) := by decide +kernel
abbrev cX6_init : ByteArray := prog_8_method_1_code
def yX6_init : MethodName := ⟨RX6, "<init>", "()V"⟩
abbrev cX6_becomeLike : ByteArray := prog_8_method_2_code
def yX6_becomeLike : MethodName := ⟨RX6, "becomeLike", "(LRaisedTableaux$State;)V"⟩
abbrev cX6_emptySlots : ByteArray := prog_8_method_3_code
def yX6_emptySlots : MethodName := ⟨RX6, "emptySlots", "()V"⟩
abbrev cX6_heldSlots : ByteArray := prog_8_method_4_code
def yX6_heldSlots : MethodName := ⟨RX6, "heldSlots", "()I"⟩
abbrev cX6_lettersInAll : ByteArray := prog_8_method_5_code
def yX6_lettersInAll : MethodName := ⟨RX6, "lettersInAll", "()I"⟩
abbrev cX6_draw : ByteArray := prog_8_method_6_code
def yX6_draw : MethodName := ⟨RX6, "draw", "()I"⟩
def RX7 : String := "RaisedTableaux$Tape"
def TX7 : u_T := fun k => match k with
  | 0 => ("RaisedTableaux$Tape", "length", "I", false)
  | 1 => ("RaisedTableaux$Tape", "at", "I", false)
  | 2 => ("RaisedTableaux$Tape", "act", "I", false)
  | 3 => ("RaisedTableaux$Tape", "step", "I", false)
  | _ => ("RaisedTableaux$Tape", "bytes", "[I", true)
def tyX7 : Nat → FieldType := fun k => match k with
  | 0 => .int
  | 1 => .int
  | 2 => .int
  | 3 => .int
  | _ => .array .int
abbrev wsX70 : List Cond := u_ws RX7 TX7 5
theorem nmX7 : ∀ a, a < 5 → ∀ b, b < 5 → a ≠ b → (TX7 a).2.1 ≠ (TX7 b).2.1 := by decide +kernel
theorem tyX7_ok : ∀ k, k < 5 → parseFieldDescriptor (TX7 k).2.2.1 = some (tyX7 k) := by decide +kernel
abbrev cX7_init : ByteArray := prog_9_method_1_code
def yX7_init : MethodName := ⟨RX7, "<init>", "()V"⟩
abbrev cX7_append : ByteArray := prog_9_method_2_code
def yX7_append : MethodName := ⟨RX7, "append", "(JI)V"⟩
abbrev cX7_useUp : ByteArray := prog_9_method_3_code
def yX7_useUp : MethodName := ⟨RX7, "useUp", "()V"⟩
abbrev cX7_rewind : ByteArray := prog_9_method_4_code
def yX7_rewind : MethodName := ⟨RX7, "rewind", "()V"⟩
abbrev cX7_goesOn : ByteArray := prog_9_method_5_code
def yX7_goesOn : MethodName := ⟨RX7, "goesOn", "()Z"⟩
abbrev cX7_readsTableau : ByteArray := prog_9_method_6_code
def yX7_readsTableau : MethodName := ⟨RX7, "readsTableau", "(LRaisedTableaux$Grid;I)Z"⟩
abbrev cX7_readsAct : ByteArray := prog_9_method_7_code
def yX7_readsAct : MethodName := ⟨RX7, "readsAct", "(I)Z"⟩
abbrev cX7_readsName : ByteArray := prog_9_method_8_code
def yX7_readsName : MethodName := ⟨RX7, "readsName", "()Z"⟩
abbrev cX7_endOfName : ByteArray := prog_9_method_9_code
def yX7_endOfName : MethodName := ⟨RX7, "endOfName", "()I"⟩
abbrev cX7_isName : ByteArray := prog_9_method_10_code
def yX7_isName : MethodName := ⟨RX7, "isName", "(Ljava/lang/String;I)Z"⟩
abbrev cX7_nameOf : ByteArray := prog_9_method_11_code
def yX7_nameOf : MethodName := ⟨RX7, "nameOf", "(I)Ljava/lang/String;"⟩
abbrev cX7_readsStep : ByteArray := prog_9_method_12_code
def yX7_readsStep : MethodName := ⟨RX7, "readsStep", "(I)Z"⟩
abbrev cX7_readsSemicolon : ByteArray := prog_9_method_13_code
def yX7_readsSemicolon : MethodName := ⟨RX7, "readsSemicolon", "()Z"⟩
abbrev cX7_isDigit : ByteArray := prog_9_method_14_code
def yX7_isDigit : MethodName := ⟨RX7, "isDigit", "(II)Z"⟩
def RX8 : String := "RaisedTableaux$Thing"
def TX8 : u_T := fun k => match k with
  | 0 => ("RaisedTableaux$Thing", "kind", "I", false)
  | 1 => ("RaisedTableaux$Thing", "size", "I", false)
  | 2 => ("RaisedTableaux$Thing", "read", "[I", true)
  | 3 => ("RaisedTableaux$Thing", "rows", "I", false)
  | _ => ("RaisedTableaux$Thing", "lengths", "[I", true)
def tyX8 : Nat → FieldType := fun k => match k with
  | 0 => .int
  | 1 => .int
  | 2 => .array .int
  | 3 => .int
  | _ => .array .int
abbrev wsX80 : List Cond := u_ws RX8 TX8 5
theorem nmX8 : ∀ a, a < 5 → ∀ b, b < 5 → a ≠ b → (TX8 a).2.1 ≠ (TX8 b).2.1 := by decide +kernel
theorem tyX8_ok : ∀ k, k < 5 → parseFieldDescriptor (TX8 k).2.2.1 = some (tyX8 k) := by decide +kernel
abbrev cX8_init : ByteArray := prog_10_method_1_code
def yX8_init : MethodName := ⟨RX8, "<init>", "()V"⟩
abbrev cX8_becomeNothing : ByteArray := prog_10_method_2_code
def yX8_becomeNothing : MethodName := ⟨RX8, "becomeNothing", "()V"⟩
abbrev cX8_becomeWordOf : ByteArray := prog_10_method_3_code
def yX8_becomeWordOf : MethodName := ⟨RX8, "becomeWordOf", "(I)V"⟩
abbrev cX8_becomesWord : ByteArray := prog_10_method_4_code
def yX8_becomesWord : MethodName := ⟨RX8, "becomesWord", "(II)Z"⟩
abbrev cX8_becomeLike : ByteArray := prog_10_method_5_code
def yX8_becomeLike : MethodName := ⟨RX8, "becomeLike", "(LRaisedTableaux$Thing;)V"⟩
abbrev cX8_isSameAs : ByteArray := prog_10_method_6_code
def yX8_isSameAs : MethodName := ⟨RX8, "isSameAs", "(LRaisedTableaux$Thing;)Z"⟩
abbrev cX8_number : ByteArray := prog_10_method_7_code
def yX8_number : MethodName := ⟨RX8, "number", "()I"⟩
abbrev cX8_numberOfRow : ByteArray := prog_10_method_8_code
def yX8_numberOfRow : MethodName := ⟨RX8, "numberOfRow", "(I)I"⟩
abbrev cX8_numberFrom : ByteArray := prog_10_method_9_code
def yX8_numberFrom : MethodName := ⟨RX8, "numberFrom", "(II)I"⟩
abbrev cX8_content : ByteArray := prog_10_method_10_code
def yX8_content : MethodName := ⟨RX8, "content", "(I)I"⟩
def RX9 : String := "RaisedTableaux"
def TX9 : u_T := fun k => match k with
  | 0 => ("RaisedTableaux", "now", "LRaisedTableaux$State;", true)
  | 1 => ("RaisedTableaux", "kept", "LRaisedTableaux$State;", true)
  | 2 => ("RaisedTableaux", "hasKept", "Z", false)
  | 3 => ("RaisedTableaux", "tape", "LRaisedTableaux$Tape;", true)
  | 4 => ("RaisedTableaux", "sheets", "[LRaisedTableaux$Sheet;", true)
  | 5 => ("RaisedTableaux", "moves", "LRaisedTableaux$Moves;", true)
  | 6 => ("RaisedTableaux", "grid", "LRaisedTableaux$Grid;", true)
  | 7 => ("RaisedTableaux", "family", "LRaisedTableaux$Family;", true)
  | 8 => ("RaisedTableaux", "fillings", "LRaisedTableaux$Fillings;", true)
  | 9 => ("RaisedTableaux", "firstShape", "LRaisedTableaux$Shape;", true)
  | 10 => ("RaisedTableaux", "secondShape", "LRaisedTableaux$Shape;", true)
  | 11 => ("RaisedTableaux", "thirdShape", "LRaisedTableaux$Shape;", true)
  | 12 => ("RaisedTableaux", "draft", "LRaisedTableaux$Thing;", true)
  | _ => ("RaisedTableaux", "rival", "LRaisedTableaux$Thing;", true)
def tyX9 : Nat → FieldType := fun k => match k with
  | 0 => .object "RaisedTableaux$State"
  | 1 => .object "RaisedTableaux$State"
  | 2 => .boolean
  | 3 => .object "RaisedTableaux$Tape"
  | 4 => .array (.object "RaisedTableaux$Sheet")
  | 5 => .object "RaisedTableaux$Moves"
  | 6 => .object "RaisedTableaux$Grid"
  | 7 => .object "RaisedTableaux$Family"
  | 8 => .object "RaisedTableaux$Fillings"
  | 9 => .object "RaisedTableaux$Shape"
  | 10 => .object "RaisedTableaux$Shape"
  | 11 => .object "RaisedTableaux$Shape"
  | 12 => .object "RaisedTableaux$Thing"
  | _ => .object "RaisedTableaux$Thing"
abbrev wsX90 : List Cond := u_ws RX9 TX9 14
theorem nmX9 : ∀ a, a < 14 → ∀ b, b < 14 → a ≠ b → (TX9 a).2.1 ≠ (TX9 b).2.1 := by decide +kernel
theorem tyX9_ok : ∀ k, k < 14 → parseFieldDescriptor (TX9 k).2.2.1 = some (tyX9 k) := by decide +kernel
abbrev cX9_init : ByteArray := prog_1_method_1_code
def yX9_init : MethodName := ⟨RX9, "<init>", "()V"⟩
abbrev cX9_letters : ByteArray := prog_1_method_2_code
def yX9_letters : MethodName := ⟨RX9, "letters", "(I)I"⟩
abbrev cX9_word : ByteArray := prog_1_method_3_code
def yX9_word : MethodName := ⟨RX9, "word", "(II)I"⟩
abbrev cX9_feed : ByteArray := prog_1_method_4_code
def yX9_feed : MethodName := ⟨RX9, "feed", "(JI)I"⟩
abbrev cX9_tableau : ByteArray := prog_1_method_5_code
def yX9_tableau : MethodName := ⟨RX9, "tableau", "(I)I"⟩
abbrev cX9_bare : ByteArray := prog_1_method_6_code
def yX9_bare : MethodName := ⟨RX9, "bare", "(I)I"⟩
abbrev cX9_of : ByteArray := prog_1_method_7_code
def yX9_of : MethodName := ⟨RX9, "of", "(II)I"⟩
abbrev cX9_row : ByteArray := prog_1_method_8_code
def yX9_row : MethodName := ⟨RX9, "row", "(II)I"⟩
abbrev cX9_taken : ByteArray := prog_1_method_9_code
def yX9_taken : MethodName := ⟨RX9, "taken", "(II)I"⟩
abbrev cX9_signs : ByteArray := prog_1_method_10_code
def yX9_signs : MethodName := ⟨RX9, "signs", "(III)I"⟩
abbrev cX9_act : ByteArray := prog_1_method_11_code
def yX9_act : MethodName := ⟨RX9, "act", "(IIII)I"⟩
abbrev cX9_acts : ByteArray := prog_1_method_12_code
def yX9_acts : MethodName := ⟨RX9, "acts", "(I)I"⟩
abbrev cX9_highest : ByteArray := prog_1_method_13_code
def yX9_highest : MethodName := ⟨RX9, "highest", "(II)I"⟩
abbrev cX9_all : ByteArray := prog_1_method_14_code
def yX9_all : MethodName := ⟨RX9, "all", "(II)I"⟩
abbrev cX9_stands : ByteArray := prog_1_method_15_code
def yX9_stands : MethodName := ⟨RX9, "stands", "(I)I"⟩
abbrev cX9_way : ByteArray := prog_1_method_16_code
def yX9_way : MethodName := ⟨RX9, "way", "(I)I"⟩
abbrev cX9_pair : ByteArray := prog_1_method_17_code
def yX9_pair : MethodName := ⟨RX9, "pair", "(III)I"⟩
abbrev cX9_insert : ByteArray := prog_1_method_18_code
def yX9_insert : MethodName := ⟨RX9, "insert", "(II)I"⟩
abbrev cX9_record : ByteArray := prog_1_method_19_code
def yX9_record : MethodName := ⟨RX9, "record", "(II)I"⟩
abbrev cX9_alike : ByteArray := prog_1_method_20_code
def yX9_alike : MethodName := ⟨RX9, "alike", "(II)I"⟩
abbrev cX9_count : ByteArray := prog_1_method_21_code
def yX9_count : MethodName := ⟨RX9, "count", "(II)I"⟩
abbrev cX9_together : ByteArray := prog_1_method_22_code
def yX9_together : MethodName := ⟨RX9, "together", "(III)I"⟩
abbrev cX9_worth : ByteArray := prog_1_method_23_code
def yX9_worth : MethodName := ⟨RX9, "worth", "(II)I"⟩
abbrev cX9_worthOf : ByteArray := prog_1_method_24_code
def yX9_worthOf : MethodName := ⟨RX9, "worthOf", "(I)I"⟩
abbrev cX9_seed : ByteArray := prog_1_method_25_code
def yX9_seed : MethodName := ⟨RX9, "seed", "(I)I"⟩
abbrev cX9_lot : ByteArray := prog_1_method_26_code
def yX9_lot : MethodName := ⟨RX9, "lot", "(II)I"⟩
abbrev cX9_sheet : ByteArray := prog_1_method_27_code
def yX9_sheet : MethodName := ⟨RX9, "sheet", "(III)I"⟩
abbrev cX9_put : ByteArray := prog_1_method_28_code
def yX9_put : MethodName := ⟨RX9, "put", "(III)I"⟩
abbrev cX9_item : ByteArray := prog_1_method_29_code
def yX9_item : MethodName := ⟨RX9, "item", "(III)I"⟩
abbrev cX9_copy : ByteArray := prog_1_method_30_code
def yX9_copy : MethodName := ⟨RX9, "copy", "(IIIII)I"⟩
abbrev cX9_lay : ByteArray := prog_1_method_31_code
def yX9_lay : MethodName := ⟨RX9, "lay", "(III)I"⟩
abbrev cX9_take : ByteArray := prog_1_method_32_code
def yX9_take : MethodName := ⟨RX9, "take", "(IIII)I"⟩
abbrev cX9_many : ByteArray := prog_1_method_33_code
def yX9_many : MethodName := ⟨RX9, "many", "(I)I"⟩
abbrev cX9_keep : ByteArray := prog_1_method_34_code
def yX9_keep : MethodName := ⟨RX9, "keep", "()I"⟩
abbrev cX9_again : ByteArray := prog_1_method_35_code
def yX9_again : MethodName := ⟨RX9, "again", "()I"⟩
abbrev cX9_isSlot : ByteArray := prog_1_method_36_code
def yX9_isSlot : MethodName := ⟨RX9, "isSlot", "(I)Z"⟩
abbrev cX9_isSheet : ByteArray := prog_1_method_37_code
def yX9_isSheet : MethodName := ⟨RX9, "isSheet", "(I)Z"⟩
abbrev cX9_isHeld : ByteArray := prog_1_method_38_code
def yX9_isHeld : MethodName := ⟨RX9, "isHeld", "(I)Z"⟩
abbrev cX9_isLetter : ByteArray := prog_1_method_39_code
def yX9_isLetter : MethodName := ⟨RX9, "isLetter", "(I)Z"⟩
abbrev cX9_isStep : ByteArray := prog_1_method_40_code
def yX9_isStep : MethodName := ⟨RX9, "isStep", "(I)Z"⟩
abbrev cX9_meetInTwo : ByteArray := prog_1_method_41_code
def yX9_meetInTwo : MethodName := ⟨RX9, "meetInTwo", "(LRaisedTableaux$Thing;II)Z"⟩
abbrev cX9_meetInFour : ByteArray := prog_1_method_42_code
def yX9_meetInFour : MethodName := ⟨RX9, "meetInFour", "(LRaisedTableaux$Thing;II)Z"⟩
abbrev cX9_raisesOutAndBack : ByteArray := prog_1_method_43_code
def yX9_raisesOutAndBack : MethodName := ⟨RX9, "raisesOutAndBack", "(LRaisedTableaux$Thing;II)Z"⟩
abbrev cX9_howManyDigits : ByteArray := prog_1_method_44_code
def yX9_howManyDigits : MethodName := ⟨RX9, "howManyDigits", "(I)I"⟩
def RX10 : String := "RaisedTableauxModel"
def TX10 : u_T := fun k => match k with
  | 0 => ("RaisedTableauxModel", "n", "I", false)
  | 1 => ("RaisedTableauxModel", "z", "I", false)
  | 2 => ("RaisedTableauxModel", "keptN", "I", false)
  | 3 => ("RaisedTableauxModel", "keptZ", "I", false)
  | 4 => ("RaisedTableauxModel", "kinds", "[I", true)
  | 5 => ("RaisedTableauxModel", "sizes", "[I", true)
  | 6 => ("RaisedTableauxModel", "letters", "[I", true)
  | 7 => ("RaisedTableauxModel", "rows", "[I", true)
  | 8 => ("RaisedTableauxModel", "keptKinds", "[I", true)
  | 9 => ("RaisedTableauxModel", "keptSizes", "[I", true)
  | 10 => ("RaisedTableauxModel", "keptLetters", "[I", true)
  | 11 => ("RaisedTableauxModel", "keptRows", "[I", true)
  | 12 => ("RaisedTableauxModel", "worths", "[I", true)
  | 13 => ("RaisedTableauxModel", "keptWorths", "[I", true)
  | 14 => ("RaisedTableauxModel", "isKept", "Z", false)
  | 15 => ("RaisedTableauxModel", "work", "[I", true)
  | 16 => ("RaisedTableauxModel", "shape", "[I", true)
  | 17 => ("RaisedTableauxModel", "other", "[I", true)
  | 18 => ("RaisedTableauxModel", "many", "I", false)
  | 19 => ("RaisedTableauxModel", "kind", "I", false)
  | 20 => ("RaisedTableauxModel", "tape", "[I", true)
  | 21 => ("RaisedTableauxModel", "taped", "I", false)
  | 22 => ("RaisedTableauxModel", "at", "I", false)
  | 23 => ("RaisedTableauxModel", "cells", "[I", true)
  | 24 => ("RaisedTableauxModel", "open", "[I", true)
  | 25 => ("RaisedTableauxModel", "low", "I", false)
  | 26 => ("RaisedTableauxModel", "high", "I", false)
  | 27 => ("RaisedTableauxModel", "lastLow", "I", false)
  | 28 => ("RaisedTableauxModel", "firstHigh", "I", false)
  | 29 => ("RaisedTableauxModel", "nameLong", "I", false)
  | 30 => ("RaisedTableauxModel", "told", "[I", true)
  | 31 => ("RaisedTableauxModel", "toldSigns", "[I", true)
  | 32 => ("RaisedTableauxModel", "seen", "[I", true)
  | 33 => ("RaisedTableauxModel", "waiting", "[I", true)
  | 34 => ("RaisedTableauxModel", "waitingMany", "I", false)
  | 35 => ("RaisedTableauxModel", "places", "[I", true)
  | 36 => ("RaisedTableauxModel", "first", "[I", true)
  | 37 => ("RaisedTableauxModel", "third", "[I", true)
  | 38 => ("RaisedTableauxModel", "often", "[I", true)
  | 39 => ("RaisedTableauxModel", "found", "I", false)
  | 40 => ("RaisedTableauxModel", "worthFound", "J", false)
  | 41 => ("RaisedTableauxModel", "asked", "[I", true)
  | 42 => ("RaisedTableauxModel", "sorts", "[I", true)
  | 43 => ("RaisedTableauxModel", "lengths", "[I", true)
  | 44 => ("RaisedTableauxModel", "numbers", "[I", true)
  | _ => ("RaisedTableauxModel", "moved", "[I", true)
def tyX10 : Nat → FieldType := fun k => match k with
  | 0 => .int
  | 1 => .int
  | 2 => .int
  | 3 => .int
  | 4 => .array .int
  | 5 => .array .int
  | 6 => .array .int
  | 7 => .array .int
  | 8 => .array .int
  | 9 => .array .int
  | 10 => .array .int
  | 11 => .array .int
  | 12 => .array .int
  | 13 => .array .int
  | 14 => .boolean
  | 15 => .array .int
  | 16 => .array .int
  | 17 => .array .int
  | 18 => .int
  | 19 => .int
  | 20 => .array .int
  | 21 => .int
  | 22 => .int
  | 23 => .array .int
  | 24 => .array .int
  | 25 => .int
  | 26 => .int
  | 27 => .int
  | 28 => .int
  | 29 => .int
  | 30 => .array .int
  | 31 => .array .int
  | 32 => .array .int
  | 33 => .array .int
  | 34 => .int
  | 35 => .array .int
  | 36 => .array .int
  | 37 => .array .int
  | 38 => .array .int
  | 39 => .int
  | 40 => .long
  | 41 => .array .int
  | 42 => .array .int
  | 43 => .array .int
  | 44 => .array .int
  | _ => .array .int
abbrev wsX100 : List Cond := u_ws RX10 TX10 46
theorem nmX10 : ∀ a, a < 46 → ∀ b, b < 46 → a ≠ b → (TX10 a).2.1 ≠ (TX10 b).2.1 := by decide +kernel
theorem tyX10_ok : ∀ k, k < 46 → parseFieldDescriptor (TX10 k).2.2.1 = some (tyX10 k) := by decide +kernel
abbrev cX10_init : ByteArray := prog_12_method_1_code
def yX10_init : MethodName := ⟨RX10, "<init>", "()V"⟩
abbrev cX10_in : ByteArray := prog_12_method_2_code
def yX10_in : MethodName := ⟨RX10, "in", "(III)Z"⟩
abbrev cX10_isSlot : ByteArray := prog_12_method_3_code
def yX10_isSlot : MethodName := ⟨RX10, "isSlot", "(I)Z"⟩
abbrev cX10_isSign : ByteArray := prog_12_method_4_code
def yX10_isSign : MethodName := ⟨RX10, "isSign", "(I)Z"⟩
abbrev cX10_takes : ByteArray := prog_12_method_5_code
def yX10_takes : MethodName := ⟨RX10, "takes", "(I)V"⟩
abbrev cX10_lays : ByteArray := prog_12_method_6_code
def yX10_lays : MethodName := ⟨RX10, "lays", "(I)V"⟩
abbrev cX10_read : ByteArray := prog_12_method_7_code
def yX10_read : MethodName := ⟨RX10, "read", "()I"⟩
abbrev cX10_content : ByteArray := prog_12_method_8_code
def yX10_content : MethodName := ⟨RX10, "content", "()I"⟩
abbrev cX10_manyRows : ByteArray := prog_12_method_9_code
def yX10_manyRows : MethodName := ⟨RX10, "manyRows", "()I"⟩
abbrev cX10_letters : ByteArray := prog_12_method_10_code
def yX10_letters : MethodName := ⟨RX10, "letters", "(I)I"⟩
abbrev cX10_isWord : ByteArray := prog_12_method_11_code
def yX10_isWord : MethodName := ⟨RX10, "isWord", "(I)Z"⟩
abbrev cX10_word : ByteArray := prog_12_method_12_code
def yX10_word : MethodName := ⟨RX10, "word", "(II)I"⟩
abbrev cX10_feed : ByteArray := prog_12_method_13_code
def yX10_feed : MethodName := ⟨RX10, "feed", "(JI)I"⟩
abbrev cX10_here : ByteArray := prog_12_method_14_code
def yX10_here : MethodName := ⟨RX10, "here", "()I"⟩
abbrev cX10_fault : ByteArray := prog_12_method_15_code
def yX10_fault : MethodName := ⟨RX10, "fault", "()I"⟩
abbrev cX10_mayStand : ByteArray := prog_12_method_16_code
def yX10_mayStand : MethodName := ⟨RX10, "mayStand", "(III)Z"⟩
abbrev cX10_readsCells : ByteArray := prog_12_method_17_code
def yX10_readsCells : MethodName := ⟨RX10, "readsCells", "()V"⟩
abbrev cX10_tableau : ByteArray := prog_12_method_18_code
def yX10_tableau : MethodName := ⟨RX10, "tableau", "(I)I"⟩
abbrev cX10_bare : ByteArray := prog_12_method_19_code
def yX10_bare : MethodName := ⟨RX10, "bare", "(I)I"⟩
abbrev cX10_of : ByteArray := prog_12_method_20_code
def yX10_of : MethodName := ⟨RX10, "of", "(II)I"⟩
abbrev cX10_row : ByteArray := prog_12_method_21_code
def yX10_row : MethodName := ⟨RX10, "row", "(II)I"⟩
abbrev cX10_taken : ByteArray := prog_12_method_22_code
def yX10_taken : MethodName := ⟨RX10, "taken", "(II)I"⟩
abbrev cX10_looks : ByteArray := prog_12_method_23_code
def yX10_looks : MethodName := ⟨RX10, "looks", "(I)V"⟩
abbrev cX10_raises : ByteArray := prog_12_method_24_code
def yX10_raises : MethodName := ⟨RX10, "raises", "(I)Z"⟩
abbrev cX10_lowers : ByteArray := prog_12_method_25_code
def yX10_lowers : MethodName := ⟨RX10, "lowers", "(I)Z"⟩
abbrev cX10_signs : ByteArray := prog_12_method_26_code
def yX10_signs : MethodName := ⟨RX10, "signs", "(III)I"⟩
abbrev cX10_turns : ByteArray := prog_12_method_27_code
def yX10_turns : MethodName := ⟨RX10, "turns", "()V"⟩
abbrev cX10_acts : ByteArray := prog_12_method_28_code
def yX10_acts : MethodName := ⟨RX10, "acts", "(II)Z"⟩
abbrev cX10_act : ByteArray := prog_12_method_29_code
def yX10_act : MethodName := ⟨RX10, "act", "(IIII)I"⟩
abbrev cX10_name : ByteArray := prog_12_method_30_code
def yX10_name : MethodName := ⟨RX10, "name", "()J"⟩
abbrev cX10_actOf : ByteArray := prog_12_method_31_code
def yX10_actOf : MethodName := ⟨RX10, "actOf", "(J)I"⟩
abbrev cX10_readsActs : ByteArray := prog_12_method_32_code
def yX10_readsActs : MethodName := ⟨RX10, "readsActs", "()I"⟩
abbrev cX10_acts_ : ByteArray := prog_12_method_33_code
def yX10_acts_ : MethodName := ⟨RX10, "acts", "(I)I"⟩
abbrev cX10_highestNow : ByteArray := prog_12_method_34_code
def yX10_highestNow : MethodName := ⟨RX10, "highestNow", "()I"⟩
abbrev cX10_highest : ByteArray := prog_12_method_35_code
def yX10_highest : MethodName := ⟨RX10, "highest", "(II)I"⟩
abbrev cX10_code : ByteArray := prog_12_method_36_code
def yX10_code : MethodName := ⟨RX10, "code", "()I"⟩
abbrev cX10_decodes : ByteArray := prog_12_method_37_code
def yX10_decodes : MethodName := ⟨RX10, "decodes", "(I)V"⟩
abbrev cX10_comesTo : ByteArray := prog_12_method_38_code
def yX10_comesTo : MethodName := ⟨RX10, "comesTo", "()V"⟩
abbrev cX10_findAll : ByteArray := prog_12_method_39_code
def yX10_findAll : MethodName := ⟨RX10, "findAll", "()V"⟩
abbrev cX10_all : ByteArray := prog_12_method_40_code
def yX10_all : MethodName := ⟨RX10, "all", "(II)I"⟩
abbrev cX10_stands : ByteArray := prog_12_method_41_code
def yX10_stands : MethodName := ⟨RX10, "stands", "(I)I"⟩
abbrev cX10_way : ByteArray := prog_12_method_42_code
def yX10_way : MethodName := ⟨RX10, "way", "(I)I"⟩
abbrev cX10_raisedBy : ByteArray := prog_12_method_43_code
def yX10_raisedBy : MethodName := ⟨RX10, "raisedBy", "(IIIII)I"⟩
abbrev cX10_pair : ByteArray := prog_12_method_44_code
def yX10_pair : MethodName := ⟨RX10, "pair", "(III)I"⟩
abbrev cX10_inserts : ByteArray := prog_12_method_45_code
def yX10_inserts : MethodName := ⟨RX10, "inserts", "()V"⟩
abbrev cX10_insert : ByteArray := prog_12_method_46_code
def yX10_insert : MethodName := ⟨RX10, "insert", "(II)I"⟩
abbrev cX10_record : ByteArray := prog_12_method_47_code
def yX10_record : MethodName := ⟨RX10, "record", "(II)I"⟩
abbrev cX10_inserted : ByteArray := prog_12_method_48_code
def yX10_inserted : MethodName := ⟨RX10, "inserted", "(I)J"⟩
abbrev cX10_alike : ByteArray := prog_12_method_49_code
def yX10_alike : MethodName := ⟨RX10, "alike", "(II)I"⟩
abbrev cX10_isShape : ByteArray := prog_12_method_50_code
def yX10_isShape : MethodName := ⟨RX10, "isShape", "(I[I)Z"⟩
abbrev cX10_sum : ByteArray := prog_12_method_51_code
def yX10_sum : MethodName := ⟨RX10, "sum", "([I)I"⟩
abbrev cX10_isHighest : ByteArray := prog_12_method_52_code
def yX10_isHighest : MethodName := ⟨RX10, "isHighest", "()Z"⟩
abbrev cX10_isFilled : ByteArray := prog_12_method_53_code
def yX10_isFilled : MethodName := ⟨RX10, "isFilled", "(I)V"⟩
abbrev cX10_fills : ByteArray := prog_12_method_54_code
def yX10_fills : MethodName := ⟨RX10, "fills", "(III)V"⟩
abbrev cX10_fillsAll : ByteArray := prog_12_method_55_code
def yX10_fillsAll : MethodName := ⟨RX10, "fillsAll", "(I)V"⟩
abbrev cX10_count : ByteArray := prog_12_method_56_code
def yX10_count : MethodName := ⟨RX10, "count", "(II)I"⟩
abbrev cX10_together : ByteArray := prog_12_method_57_code
def yX10_together : MethodName := ⟨RX10, "together", "(III)I"⟩
abbrev cX10_worth : ByteArray := prog_12_method_58_code
def yX10_worth : MethodName := ⟨RX10, "worth", "(II)I"⟩
abbrev cX10_worthOf : ByteArray := prog_12_method_59_code
def yX10_worthOf : MethodName := ⟨RX10, "worthOf", "(I)I"⟩
abbrev cX10_seed : ByteArray := prog_12_method_60_code
def yX10_seed : MethodName := ⟨RX10, "seed", "(I)I"⟩
abbrev cX10_lot : ByteArray := prog_12_method_61_code
def yX10_lot : MethodName := ⟨RX10, "lot", "(II)I"⟩
abbrev cX10_isSheet : ByteArray := prog_12_method_62_code
def yX10_isSheet : MethodName := ⟨RX10, "isSheet", "(I)Z"⟩
abbrev cX10_isOutside : ByteArray := prog_12_method_63_code
def yX10_isOutside : MethodName := ⟨RX10, "isOutside", "(III)Z"⟩
abbrev cX10_cut : ByteArray := prog_12_method_64_code
def yX10_cut : MethodName := ⟨RX10, "cut", "(II)I"⟩
abbrev cX10_sheet : ByteArray := prog_12_method_65_code
def yX10_sheet : MethodName := ⟨RX10, "sheet", "(III)I"⟩
abbrev cX10_put : ByteArray := prog_12_method_66_code
def yX10_put : MethodName := ⟨RX10, "put", "(III)I"⟩
abbrev cX10_item : ByteArray := prog_12_method_67_code
def yX10_item : MethodName := ⟨RX10, "item", "(III)I"⟩
abbrev cX10_copy : ByteArray := prog_12_method_68_code
def yX10_copy : MethodName := ⟨RX10, "copy", "(IIIII)I"⟩
abbrev cX10_lay : ByteArray := prog_12_method_69_code
def yX10_lay : MethodName := ⟨RX10, "lay", "(III)I"⟩
abbrev cX10_take : ByteArray := prog_12_method_70_code
def yX10_take : MethodName := ⟨RX10, "take", "(IIII)I"⟩
abbrev cX10_lettersAll : ByteArray := prog_12_method_71_code
def yX10_lettersAll : MethodName := ⟨RX10, "lettersAll", "()I"⟩
abbrev cX10_many : ByteArray := prog_12_method_72_code
def yX10_many : MethodName := ⟨RX10, "many", "(I)I"⟩
abbrev cX10_copies : ByteArray := prog_12_method_73_code
def yX10_copies : MethodName := ⟨RX10, "copies", "([I[II)V"⟩
abbrev cX10_keep : ByteArray := prog_12_method_74_code
def yX10_keep : MethodName := ⟨RX10, "keep", "()I"⟩
abbrev cX10_again : ByteArray := prog_12_method_75_code
def yX10_again : MethodName := ⟨RX10, "again", "()I"⟩
def RJx145de : String := "java/io/Serializable"
def TJx145de : u_T := fun k => match k with
  | _ => ("", "", "", false)
def tyJx145de : Nat → FieldType := fun k => match k with
  | _ => .int
abbrev wsJx145de0 : List Cond := u_ws RJx145de TJx145de 0
theorem nmJx145de : ∀ a, a < 0 → ∀ b, b < 0 → a ≠ b → (TJx145de a).2.1 ≠ (TJx145de b).2.1 := by decide +kernel
theorem tyJx145de_ok : ∀ k, k < 0 → parseFieldDescriptor (TJx145de k).2.2.1 = some (tyJx145de k) := by decide +kernel
def RJx9f9b0 : String := "java/lang/CharSequence"
def TJx9f9b0 : u_T := fun k => match k with
  | _ => ("", "", "", false)
def tyJx9f9b0 : Nat → FieldType := fun k => match k with
  | _ => .int
abbrev wsJx9f9b00 : List Cond := u_ws RJx9f9b0 TJx9f9b0 0
theorem nmJx9f9b0 : ∀ a, a < 0 → ∀ b, b < 0 → a ≠ b → (TJx9f9b0 a).2.1 ≠ (TJx9f9b0 b).2.1 := by decide +kernel
theorem tyJx9f9b0_ok : ∀ k, k < 0 → parseFieldDescriptor (TJx9f9b0 k).2.2.1 = some (tyJx9f9b0 k) := by decide +kernel
def RJxb160c : String := "java/lang/Comparable"
def TJxb160c : u_T := fun k => match k with
  | _ => ("", "", "", false)
def tyJxb160c : Nat → FieldType := fun k => match k with
  | _ => .int
abbrev wsJxb160c0 : List Cond := u_ws RJxb160c TJxb160c 0
theorem nmJxb160c : ∀ a, a < 0 → ∀ b, b < 0 → a ≠ b → (TJxb160c a).2.1 ≠ (TJxb160c b).2.1 := by decide +kernel
theorem tyJxb160c_ok : ∀ k, k < 0 → parseFieldDescriptor (TJxb160c k).2.2.1 = some (tyJxb160c k) := by decide +kernel
def RJ6 : String := "java/lang/Integer"
def TJ6 : u_T := fun k => match k with
  | _ => ("", "", "", false)
def tyJ6 : Nat → FieldType := fun k => match k with
  | _ => .int
abbrev wsJ60 : List Cond := u_ws RJ6 TJ6 0
theorem nmJ6 : ∀ a, a < 0 → ∀ b, b < 0 → a ≠ b → (TJ6 a).2.1 ≠ (TJ6 b).2.1 := by decide +kernel
theorem tyJ6_ok : ∀ k, k < 0 → parseFieldDescriptor (TJ6 k).2.2.1 = some (tyJ6 k) := by decide +kernel
abbrev cJ6_numberOfTrailingZeros_0f7a4 : ByteArray := prog_13_method_48_code
def yJ6_numberOfTrailingZeros_0f7a4 : MethodName := ⟨RJ6, "numberOfTrailingZeros", "(I)I"⟩
def RJ13 : String := "java/lang/Long"
def TJ13 : u_T := fun k => match k with
  | _ => ("", "", "", false)
def tyJ13 : Nat → FieldType := fun k => match k with
  | _ => .int
abbrev wsJ130 : List Cond := u_ws RJ13 TJ13 0
theorem nmJ13 : ∀ a, a < 0 → ∀ b, b < 0 → a ≠ b → (TJ13 a).2.1 ≠ (TJ13 b).2.1 := by decide +kernel
theorem tyJ13_ok : ∀ k, k < 0 → parseFieldDescriptor (TJ13 k).2.2.1 = some (tyJ13 k) := by decide +kernel
abbrev cJ13_numberOfTrailingZeros_95d88 : ByteArray := prog_14_method_49_code
def yJ13_numberOfTrailingZeros_95d88 : MethodName := ⟨RJ13, "numberOfTrailingZeros", "(J)I"⟩
abbrev cJ13_bitCount_95d88 : ByteArray := prog_14_method_50_code
def yJ13_bitCount_95d88 : MethodName := ⟨RJ13, "bitCount", "(J)I"⟩
def RJ9 : String := "java/lang/Math"
def TJ9 : u_T := fun k => match k with
  | _ => ("", "", "", false)
def tyJ9 : Nat → FieldType := fun k => match k with
  | _ => .int
abbrev wsJ90 : List Cond := u_ws RJ9 TJ9 0
theorem nmJ9 : ∀ a, a < 0 → ∀ b, b < 0 → a ≠ b → (TJ9 a).2.1 ≠ (TJ9 b).2.1 := by decide +kernel
theorem tyJ9_ok : ∀ k, k < 0 → parseFieldDescriptor (TJ9 k).2.2.1 = some (tyJ9 k) := by decide +kernel
abbrev cJ9_max_7cf53 : ByteArray := prog_15_method_65_code
def yJ9_max_7cf53 : MethodName := ⟨RJ9, "max", "(II)I"⟩
def RJxd2413 : String := "java/lang/Number"
def TJxd2413 : u_T := fun k => match k with
  | _ => ("", "", "", false)
def tyJxd2413 : Nat → FieldType := fun k => match k with
  | _ => .int
abbrev wsJxd24130 : List Cond := u_ws RJxd2413 TJxd2413 0
theorem nmJxd2413 : ∀ a, a < 0 → ∀ b, b < 0 → a ≠ b → (TJxd2413 a).2.1 ≠ (TJxd2413 b).2.1 := by decide +kernel
theorem tyJxd2413_ok : ∀ k, k < 0 → parseFieldDescriptor (TJxd2413 k).2.2.1 = some (tyJxd2413 k) := by decide +kernel
def RJ0 : String := "java/lang/String"
def TJ0 : u_T := fun k => match k with
  | _ => ("", "", "", false)
def tyJ0 : Nat → FieldType := fun k => match k with
  | _ => .int
abbrev wsJ00 : List Cond := u_ws RJ0 TJ0 0
theorem nmJ0 : ∀ a, a < 0 → ∀ b, b < 0 → a ≠ b → (TJ0 a).2.1 ≠ (TJ0 b).2.1 := by decide +kernel
theorem tyJ0_ok : ∀ k, k < 0 → parseFieldDescriptor (TJ0 k).2.2.1 = some (tyJ0 k) := by decide +kernel
abbrev cJ0_length_8abf5 : ByteArray := prog_17_method_54_code
def yJ0_length_8abf5 : MethodName := ⟨RJ0, "length", "()I"⟩
abbrev cJ0_charAt_5068e : ByteArray := prog_17_method_56_code
def yJ0_charAt_5068e : MethodName := ⟨RJ0, "charAt", "(I)C"⟩
abbrev cJ0_coder_7d493 : ByteArray := prog_17_method_152_code
def yJ0_coder_7d493 : MethodName := ⟨RJ0, "coder", "()B"⟩
abbrev cJ0_isLatin1_aae02 : ByteArray := prog_17_method_154_code
def yJ0_isLatin1_aae02 : MethodName := ⟨RJ0, "isLatin1", "()Z"⟩
abbrev cJ0_checkIndex_df160 : ByteArray := prog_17_method_155_code
def yJ0_checkIndex_df160 : MethodName := ⟨RJ0, "checkIndex", "(II)V"⟩
def RJ1 : String := "java/lang/StringLatin1"
def TJ1 : u_T := fun k => match k with
  | _ => ("", "", "", false)
def tyJ1 : Nat → FieldType := fun k => match k with
  | _ => .int
abbrev wsJ10 : List Cond := u_ws RJ1 TJ1 0
theorem nmJ1 : ∀ a, a < 0 → ∀ b, b < 0 → a ≠ b → (TJ1 a).2.1 ≠ (TJ1 b).2.1 := by decide +kernel
theorem tyJ1_ok : ∀ k, k < 0 → parseFieldDescriptor (TJ1 k).2.2.1 = some (tyJ1 k) := by decide +kernel
abbrev cJ1_charAt_3b067 : ByteArray := prog_18_method_2_code
def yJ1_charAt_3b067 : MethodName := ⟨RJ1, "charAt", "([BI)C"⟩
def RJ2 : String := "java/lang/StringUTF16"
def TJ2 : u_T := fun k => match k with
  | _ => ("", "", "", false)
def tyJ2 : Nat → FieldType := fun k => match k with
  | _ => .int
abbrev wsJ20 : List Cond := u_ws RJ2 TJ2 0
theorem nmJ2 : ∀ a, a < 0 → ∀ b, b < 0 → a ≠ b → (TJ2 a).2.1 ≠ (TJ2 b).2.1 := by decide +kernel
theorem tyJ2_ok : ∀ k, k < 0 → parseFieldDescriptor (TJ2 k).2.2.1 = some (tyJ2 k) := by decide +kernel
abbrev cJ2_getChar_3b067 : ByteArray := prog_19_method_5_code
def yJ2_getChar_3b067 : MethodName := ⟨RJ2, "getChar", "([BI)C"⟩
abbrev cJ2_length_9d52b : ByteArray := prog_19_method_6_code
def yJ2_length_9d52b : MethodName := ⟨RJ2, "length", "([B)I"⟩
abbrev cJ2_charAt_3b067 : ByteArray := prog_19_method_83_code
def yJ2_charAt_3b067 : MethodName := ⟨RJ2, "charAt", "([BI)C"⟩
abbrev cJ2_checkIndex_2214a : ByteArray := prog_19_method_91_code
def yJ2_checkIndex_2214a : MethodName := ⟨RJ2, "checkIndex", "(I[B)V"⟩
def RJ10 : String := "java/lang/System"
def TJ10 : u_T := fun k => match k with
  | _ => ("", "", "", false)
def tyJ10 : Nat → FieldType := fun k => match k with
  | _ => .int
abbrev wsJ100 : List Cond := u_ws RJ10 TJ10 0
theorem nmJ10 : ∀ a, a < 0 → ∀ b, b < 0 → a ≠ b → (TJ10 a).2.1 ≠ (TJ10 b).2.1 := by decide +kernel
theorem tyJ10_ok : ∀ k, k < 0 → parseFieldDescriptor (TJ10 k).2.2.1 = some (tyJ10 k) := by decide +kernel
def RJxfd54e : String := "java/lang/constant/Constable"
def TJxfd54e : u_T := fun k => match k with
  | _ => ("", "", "", false)
def tyJxfd54e : Nat → FieldType := fun k => match k with
  | _ => .int
abbrev wsJxfd54e0 : List Cond := u_ws RJxfd54e TJxfd54e 0
theorem nmJxfd54e : ∀ a, a < 0 → ∀ b, b < 0 → a ≠ b → (TJxfd54e a).2.1 ≠ (TJxfd54e b).2.1 := by decide +kernel
theorem tyJxfd54e_ok : ∀ k, k < 0 → parseFieldDescriptor (TJxfd54e k).2.2.1 = some (tyJxfd54e k) := by decide +kernel
def RJx3cf43 : String := "java/lang/constant/ConstantDesc"
def TJx3cf43 : u_T := fun k => match k with
  | _ => ("", "", "", false)
def tyJx3cf43 : Nat → FieldType := fun k => match k with
  | _ => .int
abbrev wsJx3cf430 : List Cond := u_ws RJx3cf43 TJx3cf43 0
theorem nmJx3cf43 : ∀ a, a < 0 → ∀ b, b < 0 → a ≠ b → (TJx3cf43 a).2.1 ≠ (TJx3cf43 b).2.1 := by decide +kernel
theorem tyJx3cf43_ok : ∀ k, k < 0 → parseFieldDescriptor (TJx3cf43 k).2.2.1 = some (tyJx3cf43 k) := by decide +kernel
def RJ7 : String := "java/util/Arrays"
def TJ7 : u_T := fun k => match k with
  | _ => ("", "", "", false)
def tyJ7 : Nat → FieldType := fun k => match k with
  | _ => .int
abbrev wsJ70 : List Cond := u_ws RJ7 TJ7 0
theorem nmJ7 : ∀ a, a < 0 → ∀ b, b < 0 → a ≠ b → (TJ7 a).2.1 ≠ (TJ7 b).2.1 := by decide +kernel
theorem tyJ7_ok : ∀ k, k < 0 → parseFieldDescriptor (TJ7 k).2.2.1 = some (tyJ7 k) := by decide +kernel
abbrev cJ7_fill_d0a16 : ByteArray := prog_21_method_101_code
def yJ7_fill_d0a16 : MethodName := ⟨RJ7, "fill", "([JJ)V"⟩
abbrev cJ7_fill_53178 : ByteArray := prog_21_method_103_code
def yJ7_fill_53178 : MethodName := ⟨RJ7, "fill", "([II)V"⟩
def RJ3 : String := "jdk/internal/util/Preconditions"
def TJ3 : u_T := fun k => match k with
  | _ => ("", "", "", false)
def tyJ3 : Nat → FieldType := fun k => match k with
  | _ => .int
abbrev wsJ30 : List Cond := u_ws RJ3 TJ3 0
theorem nmJ3 : ∀ a, a < 0 → ∀ b, b < 0 → a ≠ b → (TJ3 a).2.1 ≠ (TJ3 b).2.1 := by decide +kernel
theorem tyJ3_ok : ∀ k, k < 0 → parseFieldDescriptor (TJ3 k).2.2.1 = some (tyJ3 k) := by decide +kernel
abbrev cJ3_checkIndex_8e157 : ByteArray := prog_22_method_11_code
def yJ3_checkIndex_8e157 : MethodName := ⟨RJ3, "checkIndex", "(IILjava/util/function/BiFunction;)I"⟩
def RL : String := "RaisedTableauxLaw"
abbrev cL_law : ByteArray := code
def yL_law : MethodName := ⟨RL, "law", "([I)Z"⟩
