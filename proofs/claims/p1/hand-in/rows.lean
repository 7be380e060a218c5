section
-- ===== PART A: goes FIRST, ahead of the names: the tables' words, and 'selects' of the private methods out of them =====
/-- a private method of a class that the tables say can be made, by its rows of tables_1 -/
def lw_okq (q : MethodName × Nat) : Prop := (q.1.cls ≠ "java/lang/invoke/MethodHandle" ∧ q.1.cls ≠ "java/lang/invoke/VarHandle") ∧ Cond.instantiable q.1.cls q.2 ∈ tables_1 ∧ Cond.privateMethod q.1 ∈ tables_1 ∧ Cond.instanceMethod q.1 ∈ tables_1
theorem lw_p0 : lw_okq (⟨"OwnChair", "refuse", "(I)I"⟩, 13) := ⟨⟨by decide +kernel, by decide +kernel⟩, List.mem_of_getElem? (i := 19) (by decide +kernel), List.mem_of_getElem? (i := 398) (by decide +kernel), List.mem_of_getElem? (i := 399) (by decide +kernel)⟩
theorem lw_p1 : lw_okq (⟨"OwnChair$Lexer", "readWord", "()V"⟩, 8) := ⟨⟨by decide +kernel, by decide +kernel⟩, List.mem_of_getElem? (i := 62) (by decide +kernel), List.mem_of_getElem? (i := 456) (by decide +kernel), List.mem_of_getElem? (i := 457) (by decide +kernel)⟩
theorem lw_p2 : lw_okq (⟨"OwnChair$Lexer", "readNumber", "()V"⟩, 8) := ⟨⟨by decide +kernel, by decide +kernel⟩, List.mem_of_getElem? (i := 62) (by decide +kernel), List.mem_of_getElem? (i := 464) (by decide +kernel), List.mem_of_getElem? (i := 465) (by decide +kernel)⟩
theorem lw_p3 : lw_okq (⟨"OwnChair$TownReader", "readStatement", "(LOwnChair$Town;)Z"⟩, 3) := ⟨⟨by decide +kernel, by decide +kernel⟩, List.mem_of_getElem? (i := 50) (by decide +kernel), List.mem_of_getElem? (i := 468) (by decide +kernel), List.mem_of_getElem? (i := 469) (by decide +kernel)⟩
theorem lw_p4 : lw_okq (⟨"OwnChair$TownReader", "readRoom", "(LOwnChair$Town;)Z"⟩, 3) := ⟨⟨by decide +kernel, by decide +kernel⟩, List.mem_of_getElem? (i := 50) (by decide +kernel), List.mem_of_getElem? (i := 473) (by decide +kernel), List.mem_of_getElem? (i := 474) (by decide +kernel)⟩
theorem lw_p5 : lw_okq (⟨"OwnChair$TownReader", "freshName", "(LOwnChair$Town;)I"⟩, 3) := ⟨⟨by decide +kernel, by decide +kernel⟩, List.mem_of_getElem? (i := 50) (by decide +kernel), List.mem_of_getElem? (i := 477) (by decide +kernel), List.mem_of_getElem? (i := 478) (by decide +kernel)⟩
theorem lw_p6 : lw_okq (⟨"OwnChair$TownReader", "readNumber", "(III)Z"⟩, 3) := ⟨⟨by decide +kernel, by decide +kernel⟩, List.mem_of_getElem? (i := 50) (by decide +kernel), List.mem_of_getElem? (i := 493) (by decide +kernel), List.mem_of_getElem? (i := 494) (by decide +kernel)⟩
theorem lw_p7 : lw_okq (⟨"OwnChair$TownReader", "readWay", "(LOwnChair$Town;)Z"⟩, 3) := ⟨⟨by decide +kernel, by decide +kernel⟩, List.mem_of_getElem? (i := 50) (by decide +kernel), List.mem_of_getElem? (i := 506) (by decide +kernel), List.mem_of_getElem? (i := 507) (by decide +kernel)⟩
theorem lw_p8 : lw_okq (⟨"OwnChair$TownReader", "knownRoom", "(LOwnChair$Town;)I"⟩, 3) := ⟨⟨by decide +kernel, by decide +kernel⟩, List.mem_of_getElem? (i := 50) (by decide +kernel), List.mem_of_getElem? (i := 510) (by decide +kernel), List.mem_of_getElem? (i := 511) (by decide +kernel)⟩
theorem lw_p9 : lw_okq (⟨"OwnChair$TownReader", "readPerson", "(LOwnChair$Town;)Z"⟩, 3) := ⟨⟨by decide +kernel, by decide +kernel⟩, List.mem_of_getElem? (i := 50) (by decide +kernel), List.mem_of_getElem? (i := 523) (by decide +kernel), List.mem_of_getElem? (i := 524) (by decide +kernel)⟩
theorem lw_p10 : lw_okq (⟨"OwnChair$TownReader", "readHome", "(LOwnChair$Town;I)I"⟩, 3) := ⟨⟨by decide +kernel, by decide +kernel⟩, List.mem_of_getElem? (i := 50) (by decide +kernel), List.mem_of_getElem? (i := 530) (by decide +kernel), List.mem_of_getElem? (i := 531) (by decide +kernel)⟩
theorem lw_p11 : lw_okq (⟨"OwnChair$TownReader", "readJoined", "(LOwnChair$Town;)Z"⟩, 3) := ⟨⟨by decide +kernel, by decide +kernel⟩, List.mem_of_getElem? (i := 50) (by decide +kernel), List.mem_of_getElem? (i := 543) (by decide +kernel), List.mem_of_getElem? (i := 544) (by decide +kernel)⟩
theorem lw_p12 : lw_okq (⟨"OwnChair$TownReader", "unjoinedPerson", "(LOwnChair$Town;I)I"⟩, 3) := ⟨⟨by decide +kernel, by decide +kernel⟩, List.mem_of_getElem? (i := 50) (by decide +kernel), List.mem_of_getElem? (i := 547) (by decide +kernel), List.mem_of_getElem? (i := 548) (by decide +kernel)⟩
theorem lw_p13 : lw_okq (⟨"OwnChair$TownReader", "beginSum", "(LOwnChair$Formula;)Z"⟩, 3) := ⟨⟨by decide +kernel, by decide +kernel⟩, List.mem_of_getElem? (i := 50) (by decide +kernel), List.mem_of_getElem? (i := 559) (by decide +kernel), List.mem_of_getElem? (i := 560) (by decide +kernel)⟩
theorem lw_p14 : lw_okq (⟨"OwnChair$SumReader", "readSum", "(LOwnChair$Formula;I)Z"⟩, 1) := ⟨⟨by decide +kernel, by decide +kernel⟩, List.mem_of_getElem? (i := 56) (by decide +kernel), List.mem_of_getElem? (i := 563) (by decide +kernel), List.mem_of_getElem? (i := 564) (by decide +kernel)⟩
theorem lw_p15 : lw_okq (⟨"OwnChair$SumReader", "readProduct", "(LOwnChair$Formula;I)Z"⟩, 1) := ⟨⟨by decide +kernel, by decide +kernel⟩, List.mem_of_getElem? (i := 56) (by decide +kernel), List.mem_of_getElem? (i := 567) (by decide +kernel), List.mem_of_getElem? (i := 568) (by decide +kernel)⟩
def lw_privs_1 : List (MethodName × Nat) := [(⟨"OwnChair", "refuse", "(I)I"⟩, 13), (⟨"OwnChair$Lexer", "readWord", "()V"⟩, 8), (⟨"OwnChair$Lexer", "readNumber", "()V"⟩, 8), (⟨"OwnChair$TownReader", "readStatement", "(LOwnChair$Town;)Z"⟩, 3), (⟨"OwnChair$TownReader", "readRoom", "(LOwnChair$Town;)Z"⟩, 3), (⟨"OwnChair$TownReader", "freshName", "(LOwnChair$Town;)I"⟩, 3), (⟨"OwnChair$TownReader", "readNumber", "(III)Z"⟩, 3), (⟨"OwnChair$TownReader", "readWay", "(LOwnChair$Town;)Z"⟩, 3), (⟨"OwnChair$TownReader", "knownRoom", "(LOwnChair$Town;)I"⟩, 3), (⟨"OwnChair$TownReader", "readPerson", "(LOwnChair$Town;)Z"⟩, 3), (⟨"OwnChair$TownReader", "readHome", "(LOwnChair$Town;I)I"⟩, 3), (⟨"OwnChair$TownReader", "readJoined", "(LOwnChair$Town;)Z"⟩, 3), (⟨"OwnChair$TownReader", "unjoinedPerson", "(LOwnChair$Town;I)I"⟩, 3), (⟨"OwnChair$TownReader", "beginSum", "(LOwnChair$Formula;)Z"⟩, 3), (⟨"OwnChair$SumReader", "readSum", "(LOwnChair$Formula;I)Z"⟩, 1), (⟨"OwnChair$SumReader", "readProduct", "(LOwnChair$Formula;I)Z"⟩, 1)]
theorem lw_r1 : ∀ q ∈ lw_privs_1, lw_okq q := List.forall_mem_cons.mpr ⟨lw_p0, List.forall_mem_cons.mpr ⟨lw_p1, List.forall_mem_cons.mpr ⟨lw_p2, List.forall_mem_cons.mpr ⟨lw_p3, List.forall_mem_cons.mpr ⟨lw_p4, List.forall_mem_cons.mpr ⟨lw_p5, List.forall_mem_cons.mpr ⟨lw_p6, List.forall_mem_cons.mpr ⟨lw_p7, List.forall_mem_cons.mpr ⟨lw_p8, List.forall_mem_cons.mpr ⟨lw_p9, List.forall_mem_cons.mpr ⟨lw_p10, List.forall_mem_cons.mpr ⟨lw_p11, List.forall_mem_cons.mpr ⟨lw_p12, List.forall_mem_cons.mpr ⟨lw_p13, List.forall_mem_cons.mpr ⟨lw_p14, List.forall_mem_cons.mpr ⟨lw_p15, fun _ h => absurd h List.not_mem_nil⟩⟩⟩⟩⟩⟩⟩⟩⟩⟩⟩⟩⟩⟩⟩⟩
theorem lw_p16 : lw_okq (⟨"OwnChair$SumReader", "readPart", "(LOwnChair$Formula;I)Z"⟩, 1) := ⟨⟨by decide +kernel, by decide +kernel⟩, List.mem_of_getElem? (i := 56) (by decide +kernel), List.mem_of_getElem? (i := 571) (by decide +kernel), List.mem_of_getElem? (i := 572) (by decide +kernel)⟩
theorem lw_p17 : lw_okq (⟨"OwnChair$SumReader", "readSimple", "(LOwnChair$Formula;I)Z"⟩, 1) := ⟨⟨by decide +kernel, by decide +kernel⟩, List.mem_of_getElem? (i := 56) (by decide +kernel), List.mem_of_getElem? (i := 575) (by decide +kernel), List.mem_of_getElem? (i := 576) (by decide +kernel)⟩
theorem lw_p18 : lw_okq (⟨"OwnChair$SumReader", "opens", "(CI)Z"⟩, 1) := ⟨⟨by decide +kernel, by decide +kernel⟩, List.mem_of_getElem? (i := 56) (by decide +kernel), List.mem_of_getElem? (i := 602) (by decide +kernel), List.mem_of_getElem? (i := 603) (by decide +kernel)⟩
theorem lw_p19 : lw_okq (⟨"OwnChair$SumReader", "readPair", "(LOwnChair$Formula;II)Z"⟩, 1) := ⟨⟨by decide +kernel, by decide +kernel⟩, List.mem_of_getElem? (i := 56) (by decide +kernel), List.mem_of_getElem? (i := 615) (by decide +kernel), List.mem_of_getElem? (i := 616) (by decide +kernel)⟩
theorem lw_p20 : lw_okq (⟨"OwnChair$SumReader", "readChoice", "(LOwnChair$Formula;I)Z"⟩, 1) := ⟨⟨by decide +kernel, by decide +kernel⟩, List.mem_of_getElem? (i := 56) (by decide +kernel), List.mem_of_getElem? (i := 619) (by decide +kernel), List.mem_of_getElem? (i := 620) (by decide +kernel)⟩
theorem lw_p21 : lw_okq (⟨"OwnChair$SumReader", "readTest", "(LOwnChair$Formula;I)Z"⟩, 1) := ⟨⟨by decide +kernel, by decide +kernel⟩, List.mem_of_getElem? (i := 56) (by decide +kernel), List.mem_of_getElem? (i := 623) (by decide +kernel), List.mem_of_getElem? (i := 624) (by decide +kernel)⟩
theorem lw_p22 : lw_okq (⟨"OwnChair$SumReader", "readBoth", "(LOwnChair$Formula;I)Z"⟩, 1) := ⟨⟨by decide +kernel, by decide +kernel⟩, List.mem_of_getElem? (i := 56) (by decide +kernel), List.mem_of_getElem? (i := 627) (by decide +kernel), List.mem_of_getElem? (i := 628) (by decide +kernel)⟩
theorem lw_p23 : lw_okq (⟨"OwnChair$SumReader", "readFact", "(LOwnChair$Formula;I)Z"⟩, 1) := ⟨⟨by decide +kernel, by decide +kernel⟩, List.mem_of_getElem? (i := 56) (by decide +kernel), List.mem_of_getElem? (i := 631) (by decide +kernel), List.mem_of_getElem? (i := 632) (by decide +kernel)⟩
theorem lw_p24 : lw_okq (⟨"OwnChair$SumReader", "readDenial", "(LOwnChair$Formula;I)Z"⟩, 1) := ⟨⟨by decide +kernel, by decide +kernel⟩, List.mem_of_getElem? (i := 56) (by decide +kernel), List.mem_of_getElem? (i := 637) (by decide +kernel), List.mem_of_getElem? (i := 638) (by decide +kernel)⟩
theorem lw_p25 : lw_okq (⟨"OwnChair$SumReader", "readComparison", "(LOwnChair$Formula;I)Z"⟩, 1) := ⟨⟨by decide +kernel, by decide +kernel⟩, List.mem_of_getElem? (i := 56) (by decide +kernel), List.mem_of_getElem? (i := 642) (by decide +kernel), List.mem_of_getElem? (i := 643) (by decide +kernel)⟩
theorem lw_p26 : lw_okq (⟨"OwnChair$SumReader", "productStep", "()I"⟩, 1) := ⟨⟨by decide +kernel, by decide +kernel⟩, List.mem_of_getElem? (i := 56) (by decide +kernel), List.mem_of_getElem? (i := 648) (by decide +kernel), List.mem_of_getElem? (i := 649) (by decide +kernel)⟩
theorem lw_p27 : lw_okq (⟨"OwnChair$TownReader", "readBreaks", "(LOwnChair$Town;)Z"⟩, 3) := ⟨⟨by decide +kernel, by decide +kernel⟩, List.mem_of_getElem? (i := 50) (by decide +kernel), List.mem_of_getElem? (i := 652) (by decide +kernel), List.mem_of_getElem? (i := 653) (by decide +kernel)⟩
theorem lw_p28 : lw_okq (⟨"OwnChair$TownReader", "readCarpenter", "(LOwnChair$Town;)Z"⟩, 3) := ⟨⟨by decide +kernel, by decide +kernel⟩, List.mem_of_getElem? (i := 50) (by decide +kernel), List.mem_of_getElem? (i := 657) (by decide +kernel), List.mem_of_getElem? (i := 658) (by decide +kernel)⟩
theorem lw_p29 : lw_okq (⟨"OwnChair$Scene", "give", "(III)V"⟩, 4) := ⟨⟨by decide +kernel, by decide +kernel⟩, List.mem_of_getElem? (i := 118) (by decide +kernel), List.mem_of_getElem? (i := 807) (by decide +kernel), List.mem_of_getElem? (i := 808) (by decide +kernel)⟩
theorem lw_p30 : lw_okq (⟨"OwnChair", "move", "(IIII)V"⟩, 13) := ⟨⟨by decide +kernel, by decide +kernel⟩, List.mem_of_getElem? (i := 19) (by decide +kernel), List.mem_of_getElem? (i := 850) (by decide +kernel), List.mem_of_getElem? (i := 851) (by decide +kernel)⟩
theorem lw_p31 : lw_okq (⟨"OwnChair$Scene", "spend", "(II)V"⟩, 4) := ⟨⟨by decide +kernel, by decide +kernel⟩, List.mem_of_getElem? (i := 118) (by decide +kernel), List.mem_of_getElem? (i := 858) (by decide +kernel), List.mem_of_getElem? (i := 859) (by decide +kernel)⟩
def lw_privs_2 : List (MethodName × Nat) := [(⟨"OwnChair$SumReader", "readPart", "(LOwnChair$Formula;I)Z"⟩, 1), (⟨"OwnChair$SumReader", "readSimple", "(LOwnChair$Formula;I)Z"⟩, 1), (⟨"OwnChair$SumReader", "opens", "(CI)Z"⟩, 1), (⟨"OwnChair$SumReader", "readPair", "(LOwnChair$Formula;II)Z"⟩, 1), (⟨"OwnChair$SumReader", "readChoice", "(LOwnChair$Formula;I)Z"⟩, 1), (⟨"OwnChair$SumReader", "readTest", "(LOwnChair$Formula;I)Z"⟩, 1), (⟨"OwnChair$SumReader", "readBoth", "(LOwnChair$Formula;I)Z"⟩, 1), (⟨"OwnChair$SumReader", "readFact", "(LOwnChair$Formula;I)Z"⟩, 1), (⟨"OwnChair$SumReader", "readDenial", "(LOwnChair$Formula;I)Z"⟩, 1), (⟨"OwnChair$SumReader", "readComparison", "(LOwnChair$Formula;I)Z"⟩, 1), (⟨"OwnChair$SumReader", "productStep", "()I"⟩, 1), (⟨"OwnChair$TownReader", "readBreaks", "(LOwnChair$Town;)Z"⟩, 3), (⟨"OwnChair$TownReader", "readCarpenter", "(LOwnChair$Town;)Z"⟩, 3), (⟨"OwnChair$Scene", "give", "(III)V"⟩, 4), (⟨"OwnChair", "move", "(IIII)V"⟩, 13), (⟨"OwnChair$Scene", "spend", "(II)V"⟩, 4)]
theorem lw_r2 : ∀ q ∈ lw_privs_2, lw_okq q := List.forall_mem_cons.mpr ⟨lw_p16, List.forall_mem_cons.mpr ⟨lw_p17, List.forall_mem_cons.mpr ⟨lw_p18, List.forall_mem_cons.mpr ⟨lw_p19, List.forall_mem_cons.mpr ⟨lw_p20, List.forall_mem_cons.mpr ⟨lw_p21, List.forall_mem_cons.mpr ⟨lw_p22, List.forall_mem_cons.mpr ⟨lw_p23, List.forall_mem_cons.mpr ⟨lw_p24, List.forall_mem_cons.mpr ⟨lw_p25, List.forall_mem_cons.mpr ⟨lw_p26, List.forall_mem_cons.mpr ⟨lw_p27, List.forall_mem_cons.mpr ⟨lw_p28, List.forall_mem_cons.mpr ⟨lw_p29, List.forall_mem_cons.mpr ⟨lw_p30, List.forall_mem_cons.mpr ⟨lw_p31, fun _ h => absurd h List.not_mem_nil⟩⟩⟩⟩⟩⟩⟩⟩⟩⟩⟩⟩⟩⟩⟩⟩
theorem lw_p32 : lw_okq (⟨"OwnChair", "chanceOf", "(I)I"⟩, 13) := ⟨⟨by decide +kernel, by decide +kernel⟩, List.mem_of_getElem? (i := 19) (by decide +kernel), List.mem_of_getElem? (i := 870) (by decide +kernel), List.mem_of_getElem? (i := 871) (by decide +kernel)⟩
theorem lw_p33 : lw_okq (⟨"OwnChair", "liveDay", "(I)I"⟩, 13) := ⟨⟨by decide +kernel, by decide +kernel⟩, List.mem_of_getElem? (i := 19) (by decide +kernel), List.mem_of_getElem? (i := 905) (by decide +kernel), List.mem_of_getElem? (i := 906) (by decide +kernel)⟩
theorem lw_p34 : lw_okq (⟨"OwnChair", "canTravel", "(II)Z"⟩, 13) := ⟨⟨by decide +kernel, by decide +kernel⟩, List.mem_of_getElem? (i := 19) (by decide +kernel), List.mem_of_getElem? (i := 944) (by decide +kernel), List.mem_of_getElem? (i := 945) (by decide +kernel)⟩
theorem lw_p35 : lw_okq (⟨"OwnChair$Paths", "layPerson", "(LOwnChair$Scene;II)V"⟩, 7) := ⟨⟨by decide +kernel, by decide +kernel⟩, List.mem_of_getElem? (i := 274) (by decide +kernel), List.mem_of_getElem? (i := 953) (by decide +kernel), List.mem_of_getElem? (i := 954) (by decide +kernel)⟩
theorem lw_p36 : lw_okq (⟨"OwnChair$Paths", "measure", "(II)V"⟩, 7) := ⟨⟨by decide +kernel, by decide +kernel⟩, List.mem_of_getElem? (i := 274) (by decide +kernel), List.mem_of_getElem? (i := 964) (by decide +kernel), List.mem_of_getElem? (i := 965) (by decide +kernel)⟩
theorem lw_p37 : lw_okq (⟨"OwnChair$Paths", "firstOnward", "(II)I"⟩, 7) := ⟨⟨by decide +kernel, by decide +kernel⟩, List.mem_of_getElem? (i := 274) (by decide +kernel), List.mem_of_getElem? (i := 970) (by decide +kernel), List.mem_of_getElem? (i := 971) (by decide +kernel)⟩
theorem lw_p38 : lw_okq (⟨"OwnChair$Errand", "without", "(LOwnChair$Scene;LOwnChair$Tape;III)I"⟩, 3) := ⟨⟨by decide +kernel, by decide +kernel⟩, List.mem_of_getElem? (i := 303) (by decide +kernel), List.mem_of_getElem? (i := 1006) (by decide +kernel), List.mem_of_getElem? (i := 1007) (by decide +kernel)⟩
theorem lw_p39 : lw_okq (⟨"OwnChair$Errand", "arrived", "(LOwnChair$Scene;LOwnChair$Tape;IIII)I"⟩, 3) := ⟨⟨by decide +kernel, by decide +kernel⟩, List.mem_of_getElem? (i := 303) (by decide +kernel), List.mem_of_getElem? (i := 1013) (by decide +kernel), List.mem_of_getElem? (i := 1014) (by decide +kernel)⟩
theorem lw_p40 : lw_okq (⟨"OwnChair$Errand", "with", "(LOwnChair$Scene;LOwnChair$Tape;III)I"⟩, 3) := ⟨⟨by decide +kernel, by decide +kernel⟩, List.mem_of_getElem? (i := 303) (by decide +kernel), List.mem_of_getElem? (i := 1020) (by decide +kernel), List.mem_of_getElem? (i := 1021) (by decide +kernel)⟩
theorem lw_p41 : lw_okq (⟨"OwnChair$Errand", "follow", "(LOwnChair$Scene;LOwnChair$Tape;II)V"⟩, 3) := ⟨⟨by decide +kernel, by decide +kernel⟩, List.mem_of_getElem? (i := 303) (by decide +kernel), List.mem_of_getElem? (i := 1028) (by decide +kernel), List.mem_of_getElem? (i := 1029) (by decide +kernel)⟩
theorem lw_p42 : lw_okq (⟨"OwnChair$Seating", "note", "(LOwnChair$Tape;)V"⟩, 8) := ⟨⟨by decide +kernel, by decide +kernel⟩, List.mem_of_getElem? (i := 321) (by decide +kernel), List.mem_of_getElem? (i := 1066) (by decide +kernel), List.mem_of_getElem? (i := 1067) (by decide +kernel)⟩
theorem lw_p43 : lw_okq (⟨"OwnChair$Seating", "layStates", "(I)Z"⟩, 8) := ⟨⟨by decide +kernel, by decide +kernel⟩, List.mem_of_getElem? (i := 321) (by decide +kernel), List.mem_of_getElem? (i := 1075) (by decide +kernel), List.mem_of_getElem? (i := 1076) (by decide +kernel)⟩
theorem lw_p44 : lw_okq (⟨"OwnChair$Seating", "countBefore", "(LOwnChair$Scene;)V"⟩, 8) := ⟨⟨by decide +kernel, by decide +kernel⟩, List.mem_of_getElem? (i := 321) (by decide +kernel), List.mem_of_getElem? (i := 1080) (by decide +kernel), List.mem_of_getElem? (i := 1081) (by decide +kernel)⟩
theorem lw_p45 : lw_okq (⟨"OwnChair$Seating", "stateBehind", "(LOwnChair$Scene;III)I"⟩, 8) := ⟨⟨by decide +kernel, by decide +kernel⟩, List.mem_of_getElem? (i := 321) (by decide +kernel), List.mem_of_getElem? (i := 1084) (by decide +kernel), List.mem_of_getElem? (i := 1085) (by decide +kernel)⟩
theorem lw_p46 : lw_okq (⟨"OwnChair$Seating", "countPerson", "(LOwnChair$Scene;I)V"⟩, 8) := ⟨⟨by decide +kernel, by decide +kernel⟩, List.mem_of_getElem? (i := 321) (by decide +kernel), List.mem_of_getElem? (i := 1089) (by decide +kernel), List.mem_of_getElem? (i := 1090) (by decide +kernel)⟩
theorem lw_p47 : lw_okq (⟨"OwnChair$Scene", "imageByte", "(II)I"⟩, 4) := ⟨⟨by decide +kernel, by decide +kernel⟩, List.mem_of_getElem? (i := 118) (by decide +kernel), List.mem_of_getElem? (i := 1106) (by decide +kernel), List.mem_of_getElem? (i := 1107) (by decide +kernel)⟩
def lw_privs_3 : List (MethodName × Nat) := [(⟨"OwnChair", "chanceOf", "(I)I"⟩, 13), (⟨"OwnChair", "liveDay", "(I)I"⟩, 13), (⟨"OwnChair", "canTravel", "(II)Z"⟩, 13), (⟨"OwnChair$Paths", "layPerson", "(LOwnChair$Scene;II)V"⟩, 7), (⟨"OwnChair$Paths", "measure", "(II)V"⟩, 7), (⟨"OwnChair$Paths", "firstOnward", "(II)I"⟩, 7), (⟨"OwnChair$Errand", "without", "(LOwnChair$Scene;LOwnChair$Tape;III)I"⟩, 3), (⟨"OwnChair$Errand", "arrived", "(LOwnChair$Scene;LOwnChair$Tape;IIII)I"⟩, 3), (⟨"OwnChair$Errand", "with", "(LOwnChair$Scene;LOwnChair$Tape;III)I"⟩, 3), (⟨"OwnChair$Errand", "follow", "(LOwnChair$Scene;LOwnChair$Tape;II)V"⟩, 3), (⟨"OwnChair$Seating", "note", "(LOwnChair$Tape;)V"⟩, 8), (⟨"OwnChair$Seating", "layStates", "(I)Z"⟩, 8), (⟨"OwnChair$Seating", "countBefore", "(LOwnChair$Scene;)V"⟩, 8), (⟨"OwnChair$Seating", "stateBehind", "(LOwnChair$Scene;III)I"⟩, 8), (⟨"OwnChair$Seating", "countPerson", "(LOwnChair$Scene;I)V"⟩, 8), (⟨"OwnChair$Scene", "imageByte", "(II)I"⟩, 4)]
theorem lw_r3 : ∀ q ∈ lw_privs_3, lw_okq q := List.forall_mem_cons.mpr ⟨lw_p32, List.forall_mem_cons.mpr ⟨lw_p33, List.forall_mem_cons.mpr ⟨lw_p34, List.forall_mem_cons.mpr ⟨lw_p35, List.forall_mem_cons.mpr ⟨lw_p36, List.forall_mem_cons.mpr ⟨lw_p37, List.forall_mem_cons.mpr ⟨lw_p38, List.forall_mem_cons.mpr ⟨lw_p39, List.forall_mem_cons.mpr ⟨lw_p40, List.forall_mem_cons.mpr ⟨lw_p41, List.forall_mem_cons.mpr ⟨lw_p42, List.forall_mem_cons.mpr ⟨lw_p43, List.forall_mem_cons.mpr ⟨lw_p44, List.forall_mem_cons.mpr ⟨lw_p45, List.forall_mem_cons.mpr ⟨lw_p46, List.forall_mem_cons.mpr ⟨lw_p47, fun _ h => absurd h List.not_mem_nil⟩⟩⟩⟩⟩⟩⟩⟩⟩⟩⟩⟩⟩⟩⟩⟩
theorem lw_p48 : lw_okq (⟨"OwnChair$Scene", "floorsHold", "(LOwnChair$Tape;)Z"⟩, 4) := ⟨⟨by decide +kernel, by decide +kernel⟩, List.mem_of_getElem? (i := 118) (by decide +kernel), List.mem_of_getElem? (i := 1125) (by decide +kernel), List.mem_of_getElem? (i := 1126) (by decide +kernel)⟩
theorem lw_p49 : lw_okq (⟨"OwnChairModel", "refuses", "(I)I"⟩, 80) := ⟨⟨by decide +kernel, by decide +kernel⟩, List.mem_of_getElem? (i := 1137) (by decide +kernel), List.mem_of_getElem? (i := 1390) (by decide +kernel), List.mem_of_getElem? (i := 1391) (by decide +kernel)⟩
theorem lw_p50 : lw_okq (⟨"OwnChairModel", "put", "(I)V"⟩, 80) := ⟨⟨by decide +kernel, by decide +kernel⟩, List.mem_of_getElem? (i := 1137) (by decide +kernel), List.mem_of_getElem? (i := 1394) (by decide +kernel), List.mem_of_getElem? (i := 1395) (by decide +kernel)⟩
theorem lw_p51 : lw_okq (⟨"OwnChairModel", "ahead", "()V"⟩, 80) := ⟨⟨by decide +kernel, by decide +kernel⟩, List.mem_of_getElem? (i := 1137) (by decide +kernel), List.mem_of_getElem? (i := 1406) (by decide +kernel), List.mem_of_getElem? (i := 1407) (by decide +kernel)⟩
theorem lw_p52 : lw_okq (⟨"OwnChairModel", "isOwn", "(J)Z"⟩, 80) := ⟨⟨by decide +kernel, by decide +kernel⟩, List.mem_of_getElem? (i := 1137) (by decide +kernel), List.mem_of_getElem? (i := 1417) (by decide +kernel), List.mem_of_getElem? (i := 1418) (by decide +kernel)⟩
theorem lw_p53 : lw_okq (⟨"OwnChairModel", "statement", "()V"⟩, 80) := ⟨⟨by decide +kernel, by decide +kernel⟩, List.mem_of_getElem? (i := 1137) (by decide +kernel), List.mem_of_getElem? (i := 1445) (by decide +kernel), List.mem_of_getElem? (i := 1446) (by decide +kernel)⟩
theorem lw_p54 : lw_okq (⟨"OwnChairModel", "lex", "()V"⟩, 80) := ⟨⟨by decide +kernel, by decide +kernel⟩, List.mem_of_getElem? (i := 1137) (by decide +kernel), List.mem_of_getElem? (i := 1449) (by decide +kernel), List.mem_of_getElem? (i := 1450) (by decide +kernel)⟩
theorem lw_p55 : lw_okq (⟨"OwnChairModel", "blame", "(II)V"⟩, 80) := ⟨⟨by decide +kernel, by decide +kernel⟩, List.mem_of_getElem? (i := 1137) (by decide +kernel), List.mem_of_getElem? (i := 1453) (by decide +kernel), List.mem_of_getElem? (i := 1454) (by decide +kernel)⟩
theorem lw_p56 : lw_okq (⟨"OwnChairModel", "isWord", "(J)Z"⟩, 80) := ⟨⟨by decide +kernel, by decide +kernel⟩, List.mem_of_getElem? (i := 1137) (by decide +kernel), List.mem_of_getElem? (i := 1457) (by decide +kernel), List.mem_of_getElem? (i := 1458) (by decide +kernel)⟩
theorem lw_p57 : lw_okq (⟨"OwnChairModel", "rooming", "()V"⟩, 80) := ⟨⟨by decide +kernel, by decide +kernel⟩, List.mem_of_getElem? (i := 1137) (by decide +kernel), List.mem_of_getElem? (i := 1461) (by decide +kernel), List.mem_of_getElem? (i := 1462) (by decide +kernel)⟩
theorem lw_p58 : lw_okq (⟨"OwnChairModel", "counts", "(Z)Z"⟩, 80) := ⟨⟨by decide +kernel, by decide +kernel⟩, List.mem_of_getElem? (i := 1137) (by decide +kernel), List.mem_of_getElem? (i := 1465) (by decide +kernel), List.mem_of_getElem? (i := 1466) (by decide +kernel)⟩
theorem lw_p59 : lw_okq (⟨"OwnChairModel", "fresh", "()J"⟩, 80) := ⟨⟨by decide +kernel, by decide +kernel⟩, List.mem_of_getElem? (i := 1137) (by decide +kernel), List.mem_of_getElem? (i := 1469) (by decide +kernel), List.mem_of_getElem? (i := 1470) (by decide +kernel)⟩
theorem lw_p60 : lw_okq (⟨"OwnChairModel", "named", "(IJ)I"⟩, 80) := ⟨⟨by decide +kernel, by decide +kernel⟩, List.mem_of_getElem? (i := 1137) (by decide +kernel), List.mem_of_getElem? (i := 1473) (by decide +kernel), List.mem_of_getElem? (i := 1474) (by decide +kernel)⟩
theorem lw_p61 : lw_okq (⟨"OwnChairModel", "manyOf", "(II)I"⟩, 80) := ⟨⟨by decide +kernel, by decide +kernel⟩, List.mem_of_getElem? (i := 1137) (by decide +kernel), List.mem_of_getElem? (i := 1477) (by decide +kernel), List.mem_of_getElem? (i := 1478) (by decide +kernel)⟩
theorem lw_p62 : lw_okq (⟨"OwnChairModel", "nameOf", "(III)J"⟩, 80) := ⟨⟨by decide +kernel, by decide +kernel⟩, List.mem_of_getElem? (i := 1137) (by decide +kernel), List.mem_of_getElem? (i := 1481) (by decide +kernel), List.mem_of_getElem? (i := 1482) (by decide +kernel)⟩
theorem lw_p63 : lw_okq (⟨"OwnChairModel", "must", "(J)V"⟩, 80) := ⟨⟨by decide +kernel, by decide +kernel⟩, List.mem_of_getElem? (i := 1137) (by decide +kernel), List.mem_of_getElem? (i := 1485) (by decide +kernel), List.mem_of_getElem? (i := 1486) (by decide +kernel)⟩
def lw_privs_4 : List (MethodName × Nat) := [(⟨"OwnChair$Scene", "floorsHold", "(LOwnChair$Tape;)Z"⟩, 4), (⟨"OwnChairModel", "refuses", "(I)I"⟩, 80), (⟨"OwnChairModel", "put", "(I)V"⟩, 80), (⟨"OwnChairModel", "ahead", "()V"⟩, 80), (⟨"OwnChairModel", "isOwn", "(J)Z"⟩, 80), (⟨"OwnChairModel", "statement", "()V"⟩, 80), (⟨"OwnChairModel", "lex", "()V"⟩, 80), (⟨"OwnChairModel", "blame", "(II)V"⟩, 80), (⟨"OwnChairModel", "isWord", "(J)Z"⟩, 80), (⟨"OwnChairModel", "rooming", "()V"⟩, 80), (⟨"OwnChairModel", "counts", "(Z)Z"⟩, 80), (⟨"OwnChairModel", "fresh", "()J"⟩, 80), (⟨"OwnChairModel", "named", "(IJ)I"⟩, 80), (⟨"OwnChairModel", "manyOf", "(II)I"⟩, 80), (⟨"OwnChairModel", "nameOf", "(III)J"⟩, 80), (⟨"OwnChairModel", "must", "(J)V"⟩, 80)]
theorem lw_r4 : ∀ q ∈ lw_privs_4, lw_okq q := List.forall_mem_cons.mpr ⟨lw_p48, List.forall_mem_cons.mpr ⟨lw_p49, List.forall_mem_cons.mpr ⟨lw_p50, List.forall_mem_cons.mpr ⟨lw_p51, List.forall_mem_cons.mpr ⟨lw_p52, List.forall_mem_cons.mpr ⟨lw_p53, List.forall_mem_cons.mpr ⟨lw_p54, List.forall_mem_cons.mpr ⟨lw_p55, List.forall_mem_cons.mpr ⟨lw_p56, List.forall_mem_cons.mpr ⟨lw_p57, List.forall_mem_cons.mpr ⟨lw_p58, List.forall_mem_cons.mpr ⟨lw_p59, List.forall_mem_cons.mpr ⟨lw_p60, List.forall_mem_cons.mpr ⟨lw_p61, List.forall_mem_cons.mpr ⟨lw_p62, List.forall_mem_cons.mpr ⟨lw_p63, fun _ h => absurd h List.not_mem_nil⟩⟩⟩⟩⟩⟩⟩⟩⟩⟩⟩⟩⟩⟩⟩⟩
theorem lw_p64 : lw_okq (⟨"OwnChairModel", "number", "(II)I"⟩, 80) := ⟨⟨by decide +kernel, by decide +kernel⟩, List.mem_of_getElem? (i := 1137) (by decide +kernel), List.mem_of_getElem? (i := 1489) (by decide +kernel), List.mem_of_getElem? (i := 1490) (by decide +kernel)⟩
theorem lw_p65 : lw_okq (⟨"OwnChairModel", "waying", "()V"⟩, 80) := ⟨⟨by decide +kernel, by decide +kernel⟩, List.mem_of_getElem? (i := 1137) (by decide +kernel), List.mem_of_getElem? (i := 1496) (by decide +kernel), List.mem_of_getElem? (i := 1497) (by decide +kernel)⟩
theorem lw_p66 : lw_okq (⟨"OwnChairModel", "asked", "(I)I"⟩, 80) := ⟨⟨by decide +kernel, by decide +kernel⟩, List.mem_of_getElem? (i := 1137) (by decide +kernel), List.mem_of_getElem? (i := 1500) (by decide +kernel), List.mem_of_getElem? (i := 1501) (by decide +kernel)⟩
theorem lw_p67 : lw_okq (⟨"OwnChairModel", "looked", "(I)I"⟩, 80) := ⟨⟨by decide +kernel, by decide +kernel⟩, List.mem_of_getElem? (i := 1137) (by decide +kernel), List.mem_of_getElem? (i := 1504) (by decide +kernel), List.mem_of_getElem? (i := 1505) (by decide +kernel)⟩
theorem lw_p68 : lw_okq (⟨"OwnChairModel", "personing", "()V"⟩, 80) := ⟨⟨by decide +kernel, by decide +kernel⟩, List.mem_of_getElem? (i := 1137) (by decide +kernel), List.mem_of_getElem? (i := 1508) (by decide +kernel), List.mem_of_getElem? (i := 1509) (by decide +kernel)⟩
theorem lw_p69 : lw_okq (⟨"OwnChairModel", "toldIn", "(I)I"⟩, 80) := ⟨⟨by decide +kernel, by decide +kernel⟩, List.mem_of_getElem? (i := 1137) (by decide +kernel), List.mem_of_getElem? (i := 1512) (by decide +kernel), List.mem_of_getElem? (i := 1513) (by decide +kernel)⟩
theorem lw_p70 : lw_okq (⟨"OwnChairModel", "joining", "()V"⟩, 80) := ⟨⟨by decide +kernel, by decide +kernel⟩, List.mem_of_getElem? (i := 1137) (by decide +kernel), List.mem_of_getElem? (i := 1516) (by decide +kernel), List.mem_of_getElem? (i := 1517) (by decide +kernel)⟩
theorem lw_p71 : lw_okq (⟨"OwnChairModel", "unjoined", "(I)I"⟩, 80) := ⟨⟨by decide +kernel, by decide +kernel⟩, List.mem_of_getElem? (i := 1137) (by decide +kernel), List.mem_of_getElem? (i := 1520) (by decide +kernel), List.mem_of_getElem? (i := 1521) (by decide +kernel)⟩
theorem lw_p72 : lw_okq (⟨"OwnChairModel", "slowing", "()V"⟩, 80) := ⟨⟨by decide +kernel, by decide +kernel⟩, List.mem_of_getElem? (i := 1137) (by decide +kernel), List.mem_of_getElem? (i := 1524) (by decide +kernel), List.mem_of_getElem? (i := 1525) (by decide +kernel)⟩
theorem lw_p73 : lw_okq (⟨"OwnChairModel", "reads", "(Z)V"⟩, 80) := ⟨⟨by decide +kernel, by decide +kernel⟩, List.mem_of_getElem? (i := 1137) (by decide +kernel), List.mem_of_getElem? (i := 1528) (by decide +kernel), List.mem_of_getElem? (i := 1529) (by decide +kernel)⟩
theorem lw_p74 : lw_okq (⟨"OwnChairModel", "pushes", "(I)V"⟩, 80) := ⟨⟨by decide +kernel, by decide +kernel⟩, List.mem_of_getElem? (i := 1137) (by decide +kernel), List.mem_of_getElem? (i := 1532) (by decide +kernel), List.mem_of_getElem? (i := 1533) (by decide +kernel)⟩
theorem lw_p75 : lw_okq (⟨"OwnChairModel", "operand", "()Z"⟩, 80) := ⟨⟨by decide +kernel, by decide +kernel⟩, List.mem_of_getElem? (i := 1137) (by decide +kernel), List.mem_of_getElem? (i := 1536) (by decide +kernel), List.mem_of_getElem? (i := 1537) (by decide +kernel)⟩
theorem lw_p76 : lw_okq (⟨"OwnChairModel", "holdsBack", "(I)V"⟩, 80) := ⟨⟨by decide +kernel, by decide +kernel⟩, List.mem_of_getElem? (i := 1137) (by decide +kernel), List.mem_of_getElem? (i := 1543) (by decide +kernel), List.mem_of_getElem? (i := 1544) (by decide +kernel)⟩
theorem lw_p77 : lw_okq (⟨"OwnChairModel", "isSign", "(I)Z"⟩, 80) := ⟨⟨by decide +kernel, by decide +kernel⟩, List.mem_of_getElem? (i := 1137) (by decide +kernel), List.mem_of_getElem? (i := 1547) (by decide +kernel), List.mem_of_getElem? (i := 1548) (by decide +kernel)⟩
theorem lw_p78 : lw_okq (⟨"OwnChairModel", "opens", "(I)V"⟩, 80) := ⟨⟨by decide +kernel, by decide +kernel⟩, List.mem_of_getElem? (i := 1137) (by decide +kernel), List.mem_of_getElem? (i := 1551) (by decide +kernel), List.mem_of_getElem? (i := 1552) (by decide +kernel)⟩
theorem lw_p79 : lw_okq (⟨"OwnChairModel", "add", "(II)V"⟩, 80) := ⟨⟨by decide +kernel, by decide +kernel⟩, List.mem_of_getElem? (i := 1137) (by decide +kernel), List.mem_of_getElem? (i := 1555) (by decide +kernel), List.mem_of_getElem? (i := 1556) (by decide +kernel)⟩
def lw_privs_5 : List (MethodName × Nat) := [(⟨"OwnChairModel", "number", "(II)I"⟩, 80), (⟨"OwnChairModel", "waying", "()V"⟩, 80), (⟨"OwnChairModel", "asked", "(I)I"⟩, 80), (⟨"OwnChairModel", "looked", "(I)I"⟩, 80), (⟨"OwnChairModel", "personing", "()V"⟩, 80), (⟨"OwnChairModel", "toldIn", "(I)I"⟩, 80), (⟨"OwnChairModel", "joining", "()V"⟩, 80), (⟨"OwnChairModel", "unjoined", "(I)I"⟩, 80), (⟨"OwnChairModel", "slowing", "()V"⟩, 80), (⟨"OwnChairModel", "reads", "(Z)V"⟩, 80), (⟨"OwnChairModel", "pushes", "(I)V"⟩, 80), (⟨"OwnChairModel", "operand", "()Z"⟩, 80), (⟨"OwnChairModel", "holdsBack", "(I)V"⟩, 80), (⟨"OwnChairModel", "isSign", "(I)Z"⟩, 80), (⟨"OwnChairModel", "opens", "(I)V"⟩, 80), (⟨"OwnChairModel", "add", "(II)V"⟩, 80)]
theorem lw_r5 : ∀ q ∈ lw_privs_5, lw_okq q := List.forall_mem_cons.mpr ⟨lw_p64, List.forall_mem_cons.mpr ⟨lw_p65, List.forall_mem_cons.mpr ⟨lw_p66, List.forall_mem_cons.mpr ⟨lw_p67, List.forall_mem_cons.mpr ⟨lw_p68, List.forall_mem_cons.mpr ⟨lw_p69, List.forall_mem_cons.mpr ⟨lw_p70, List.forall_mem_cons.mpr ⟨lw_p71, List.forall_mem_cons.mpr ⟨lw_p72, List.forall_mem_cons.mpr ⟨lw_p73, List.forall_mem_cons.mpr ⟨lw_p74, List.forall_mem_cons.mpr ⟨lw_p75, List.forall_mem_cons.mpr ⟨lw_p76, List.forall_mem_cons.mpr ⟨lw_p77, List.forall_mem_cons.mpr ⟨lw_p78, List.forall_mem_cons.mpr ⟨lw_p79, fun _ h => absurd h List.not_mem_nil⟩⟩⟩⟩⟩⟩⟩⟩⟩⟩⟩⟩⟩⟩⟩⟩
theorem lw_p80 : lw_okq (⟨"OwnChairModel", "goesOn", "()Z"⟩, 80) := ⟨⟨by decide +kernel, by decide +kernel⟩, List.mem_of_getElem? (i := 1137) (by decide +kernel), List.mem_of_getElem? (i := 1559) (by decide +kernel), List.mem_of_getElem? (i := 1560) (by decide +kernel)⟩
theorem lw_p81 : lw_okq (⟨"OwnChairModel", "joins", "(I)V"⟩, 80) := ⟨⟨by decide +kernel, by decide +kernel⟩, List.mem_of_getElem? (i := 1137) (by decide +kernel), List.mem_of_getElem? (i := 1563) (by decide +kernel), List.mem_of_getElem? (i := 1564) (by decide +kernel)⟩
theorem lw_p82 : lw_okq (⟨"OwnChairModel", "standingSum", "()V"⟩, 80) := ⟨⟨by decide +kernel, by decide +kernel⟩, List.mem_of_getElem? (i := 1137) (by decide +kernel), List.mem_of_getElem? (i := 1570) (by decide +kernel), List.mem_of_getElem? (i := 1571) (by decide +kernel)⟩
theorem lw_p83 : lw_okq (⟨"OwnChairModel", "breaks", "()V"⟩, 80) := ⟨⟨by decide +kernel, by decide +kernel⟩, List.mem_of_getElem? (i := 1137) (by decide +kernel), List.mem_of_getElem? (i := 1574) (by decide +kernel), List.mem_of_getElem? (i := 1575) (by decide +kernel)⟩
theorem lw_p84 : lw_okq (⟨"OwnChairModel", "mending", "()V"⟩, 80) := ⟨⟨by decide +kernel, by decide +kernel⟩, List.mem_of_getElem? (i := 1137) (by decide +kernel), List.mem_of_getElem? (i := 1578) (by decide +kernel), List.mem_of_getElem? (i := 1579) (by decide +kernel)⟩
theorem lw_p85 : lw_okq (⟨"OwnChairModel", "finishes", "(I)V"⟩, 80) := ⟨⟨by decide +kernel, by decide +kernel⟩, List.mem_of_getElem? (i := 1137) (by decide +kernel), List.mem_of_getElem? (i := 1582) (by decide +kernel), List.mem_of_getElem? (i := 1583) (by decide +kernel)⟩
theorem lw_p86 : lw_okq (⟨"OwnChairModel", "must", "(I)V"⟩, 80) := ⟨⟨by decide +kernel, by decide +kernel⟩, List.mem_of_getElem? (i := 1137) (by decide +kernel), List.mem_of_getElem? (i := 1586) (by decide +kernel), List.mem_of_getElem? (i := 1587) (by decide +kernel)⟩
theorem lw_p87 : lw_okq (⟨"OwnChairModel", "begin", "()V"⟩, 80) := ⟨⟨by decide +kernel, by decide +kernel⟩, List.mem_of_getElem? (i := 1137) (by decide +kernel), List.mem_of_getElem? (i := 1590) (by decide +kernel), List.mem_of_getElem? (i := 1591) (by decide +kernel)⟩
theorem lw_p88 : lw_okq (⟨"OwnChairModel", "ring", "(I)I"⟩, 80) := ⟨⟨by decide +kernel, by decide +kernel⟩, List.mem_of_getElem? (i := 1137) (by decide +kernel), List.mem_of_getElem? (i := 1606) (by decide +kernel), List.mem_of_getElem? (i := 1607) (by decide +kernel)⟩
theorem lw_p89 : lw_okq (⟨"OwnChairModel", "copies", "(II)V"⟩, 80) := ⟨⟨by decide +kernel, by decide +kernel⟩, List.mem_of_getElem? (i := 1137) (by decide +kernel), List.mem_of_getElem? (i := 1610) (by decide +kernel), List.mem_of_getElem? (i := 1611) (by decide +kernel)⟩
theorem lw_p90 : lw_okq (⟨"OwnChairModel", "isSitting", "(I)Z"⟩, 80) := ⟨⟨by decide +kernel, by decide +kernel⟩, List.mem_of_getElem? (i := 1137) (by decide +kernel), List.mem_of_getElem? (i := 1618) (by decide +kernel), List.mem_of_getElem? (i := 1619) (by decide +kernel)⟩
theorem lw_p91 : lw_okq (⟨"OwnChairModel", "wouldSit", "(II)Z"⟩, 80) := ⟨⟨by decide +kernel, by decide +kernel⟩, List.mem_of_getElem? (i := 1137) (by decide +kernel), List.mem_of_getElem? (i := 1622) (by decide +kernel), List.mem_of_getElem? (i := 1623) (by decide +kernel)⟩
theorem lw_p92 : lw_okq (⟨"OwnChairModel", "joinedTo", "(I)I"⟩, 80) := ⟨⟨by decide +kernel, by decide +kernel⟩, List.mem_of_getElem? (i := 1137) (by decide +kernel), List.mem_of_getElem? (i := 1626) (by decide +kernel), List.mem_of_getElem? (i := 1627) (by decide +kernel)⟩
theorem lw_p93 : lw_okq (⟨"OwnChairModel", "isRoom", "(I)Z"⟩, 80) := ⟨⟨by decide +kernel, by decide +kernel⟩, List.mem_of_getElem? (i := 1137) (by decide +kernel), List.mem_of_getElem? (i := 1639) (by decide +kernel), List.mem_of_getElem? (i := 1640) (by decide +kernel)⟩
theorem lw_p94 : lw_okq (⟨"OwnChairModel", "wideIn", "(II)I"⟩, 80) := ⟨⟨by decide +kernel, by decide +kernel⟩, List.mem_of_getElem? (i := 1137) (by decide +kernel), List.mem_of_getElem? (i := 1643) (by decide +kernel), List.mem_of_getElem? (i := 1644) (by decide +kernel)⟩
theorem lw_p95 : lw_okq (⟨"OwnChairModel", "wideOf", "(I)I"⟩, 80) := ⟨⟨by decide +kernel, by decide +kernel⟩, List.mem_of_getElem? (i := 1137) (by decide +kernel), List.mem_of_getElem? (i := 1647) (by decide +kernel), List.mem_of_getElem? (i := 1648) (by decide +kernel)⟩
def lw_privs_6 : List (MethodName × Nat) := [(⟨"OwnChairModel", "goesOn", "()Z"⟩, 80), (⟨"OwnChairModel", "joins", "(I)V"⟩, 80), (⟨"OwnChairModel", "standingSum", "()V"⟩, 80), (⟨"OwnChairModel", "breaks", "()V"⟩, 80), (⟨"OwnChairModel", "mending", "()V"⟩, 80), (⟨"OwnChairModel", "finishes", "(I)V"⟩, 80), (⟨"OwnChairModel", "must", "(I)V"⟩, 80), (⟨"OwnChairModel", "begin", "()V"⟩, 80), (⟨"OwnChairModel", "ring", "(I)I"⟩, 80), (⟨"OwnChairModel", "copies", "(II)V"⟩, 80), (⟨"OwnChairModel", "isSitting", "(I)Z"⟩, 80), (⟨"OwnChairModel", "wouldSit", "(II)Z"⟩, 80), (⟨"OwnChairModel", "joinedTo", "(I)I"⟩, 80), (⟨"OwnChairModel", "isRoom", "(I)Z"⟩, 80), (⟨"OwnChairModel", "wideIn", "(II)I"⟩, 80), (⟨"OwnChairModel", "wideOf", "(I)I"⟩, 80)]
theorem lw_r6 : ∀ q ∈ lw_privs_6, lw_okq q := List.forall_mem_cons.mpr ⟨lw_p80, List.forall_mem_cons.mpr ⟨lw_p81, List.forall_mem_cons.mpr ⟨lw_p82, List.forall_mem_cons.mpr ⟨lw_p83, List.forall_mem_cons.mpr ⟨lw_p84, List.forall_mem_cons.mpr ⟨lw_p85, List.forall_mem_cons.mpr ⟨lw_p86, List.forall_mem_cons.mpr ⟨lw_p87, List.forall_mem_cons.mpr ⟨lw_p88, List.forall_mem_cons.mpr ⟨lw_p89, List.forall_mem_cons.mpr ⟨lw_p90, List.forall_mem_cons.mpr ⟨lw_p91, List.forall_mem_cons.mpr ⟨lw_p92, List.forall_mem_cons.mpr ⟨lw_p93, List.forall_mem_cons.mpr ⟨lw_p94, List.forall_mem_cons.mpr ⟨lw_p95, fun _ h => absurd h List.not_mem_nil⟩⟩⟩⟩⟩⟩⟩⟩⟩⟩⟩⟩⟩⟩⟩⟩
theorem lw_p96 : lw_okq (⟨"OwnChairModel", "wayOf", "(II)I"⟩, 80) := ⟨⟨by decide +kernel, by decide +kernel⟩, List.mem_of_getElem? (i := 1137) (by decide +kernel), List.mem_of_getElem? (i := 1655) (by decide +kernel), List.mem_of_getElem? (i := 1656) (by decide +kernel)⟩
theorem lw_p97 : lw_okq (⟨"OwnChairModel", "isPerson", "(I)Z"⟩, 80) := ⟨⟨by decide +kernel, by decide +kernel⟩, List.mem_of_getElem? (i := 1137) (by decide +kernel), List.mem_of_getElem? (i := 1663) (by decide +kernel), List.mem_of_getElem? (i := 1664) (by decide +kernel)⟩
theorem lw_p98 : lw_okq (⟨"OwnChairModel", "doorWide", "(I)I"⟩, 80) := ⟨⟨by decide +kernel, by decide +kernel⟩, List.mem_of_getElem? (i := 1137) (by decide +kernel), List.mem_of_getElem? (i := 1667) (by decide +kernel), List.mem_of_getElem? (i := 1668) (by decide +kernel)⟩
theorem lw_p99 : lw_okq (⟨"OwnChairModel", "isFitting", "(II)Z"⟩, 80) := ⟨⟨by decide +kernel, by decide +kernel⟩, List.mem_of_getElem? (i := 1137) (by decide +kernel), List.mem_of_getElem? (i := 1675) (by decide +kernel), List.mem_of_getElem? (i := 1676) (by decide +kernel)⟩
theorem lw_p100 : lw_okq (⟨"OwnChairModel", "isThrough", "(II)Z"⟩, 80) := ⟨⟨by decide +kernel, by decide +kernel⟩, List.mem_of_getElem? (i := 1137) (by decide +kernel), List.mem_of_getElem? (i := 1679) (by decide +kernel), List.mem_of_getElem? (i := 1680) (by decide +kernel)⟩
theorem lw_p101 : lw_okq (⟨"OwnChairModel", "canGo", "(III)Z"⟩, 80) := ⟨⟨by decide +kernel, by decide +kernel⟩, List.mem_of_getElem? (i := 1137) (by decide +kernel), List.mem_of_getElem? (i := 1687) (by decide +kernel), List.mem_of_getElem? (i := 1688) (by decide +kernel)⟩
theorem lw_p102 : lw_okq (⟨"OwnChairModel", "canTake", "(III)Z"⟩, 80) := ⟨⟨by decide +kernel, by decide +kernel⟩, List.mem_of_getElem? (i := 1137) (by decide +kernel), List.mem_of_getElem? (i := 1691) (by decide +kernel), List.mem_of_getElem? (i := 1692) (by decide +kernel)⟩
theorem lw_p103 : lw_okq (⟨"OwnChairModel", "minutesOf", "(III)I"⟩, 80) := ⟨⟨by decide +kernel, by decide +kernel⟩, List.mem_of_getElem? (i := 1137) (by decide +kernel), List.mem_of_getElem? (i := 1695) (by decide +kernel), List.mem_of_getElem? (i := 1696) (by decide +kernel)⟩
theorem lw_p104 : lw_okq (⟨"OwnChairModel", "carrying", "(III)I"⟩, 80) := ⟨⟨by decide +kernel, by decide +kernel⟩, List.mem_of_getElem? (i := 1137) (by decide +kernel), List.mem_of_getElem? (i := 1699) (by decide +kernel), List.mem_of_getElem? (i := 1700) (by decide +kernel)⟩
theorem lw_p105 : lw_okq (⟨"OwnChairModel", "reckons", "(II)J"⟩, 80) := ⟨⟨by decide +kernel, by decide +kernel⟩, List.mem_of_getElem? (i := 1137) (by decide +kernel), List.mem_of_getElem? (i := 1703) (by decide +kernel), List.mem_of_getElem? (i := 1704) (by decide +kernel)⟩
theorem lw_p106 : lw_okq (⟨"OwnChairModel", "part", "(II)J"⟩, 80) := ⟨⟨by decide +kernel, by decide +kernel⟩, List.mem_of_getElem? (i := 1137) (by decide +kernel), List.mem_of_getElem? (i := 1707) (by decide +kernel), List.mem_of_getElem? (i := 1708) (by decide +kernel)⟩
theorem lw_p107 : lw_okq (⟨"OwnChairModel", "keeps", "()V"⟩, 80) := ⟨⟨by decide +kernel, by decide +kernel⟩, List.mem_of_getElem? (i := 1137) (by decide +kernel), List.mem_of_getElem? (i := 1730) (by decide +kernel), List.mem_of_getElem? (i := 1731) (by decide +kernel)⟩
theorem lw_p108 : lw_okq (⟨"OwnChairModel", "goes", "(III)V"⟩, 80) := ⟨⟨by decide +kernel, by decide +kernel⟩, List.mem_of_getElem? (i := 1137) (by decide +kernel), List.mem_of_getElem? (i := 1734) (by decide +kernel), List.mem_of_getElem? (i := 1735) (by decide +kernel)⟩
theorem lw_p109 : lw_okq (⟨"OwnChairModel", "isLater", "(II)V"⟩, 80) := ⟨⟨by decide +kernel, by decide +kernel⟩, List.mem_of_getElem? (i := 1137) (by decide +kernel), List.mem_of_getElem? (i := 1738) (by decide +kernel), List.mem_of_getElem? (i := 1739) (by decide +kernel)⟩
theorem lw_p110 : lw_okq (⟨"OwnChairModel", "writesDown", "(IIII)V"⟩, 80) := ⟨⟨by decide +kernel, by decide +kernel⟩, List.mem_of_getElem? (i := 1137) (by decide +kernel), List.mem_of_getElem? (i := 1743) (by decide +kernel), List.mem_of_getElem? (i := 1744) (by decide +kernel)⟩
theorem lw_p111 : lw_okq (⟨"OwnChairModel", "draw", "(I)I"⟩, 80) := ⟨⟨by decide +kernel, by decide +kernel⟩, List.mem_of_getElem? (i := 1137) (by decide +kernel), List.mem_of_getElem? (i := 1747) (by decide +kernel), List.mem_of_getElem? (i := 1748) (by decide +kernel)⟩
def lw_privs_7 : List (MethodName × Nat) := [(⟨"OwnChairModel", "wayOf", "(II)I"⟩, 80), (⟨"OwnChairModel", "isPerson", "(I)Z"⟩, 80), (⟨"OwnChairModel", "doorWide", "(I)I"⟩, 80), (⟨"OwnChairModel", "isFitting", "(II)Z"⟩, 80), (⟨"OwnChairModel", "isThrough", "(II)Z"⟩, 80), (⟨"OwnChairModel", "canGo", "(III)Z"⟩, 80), (⟨"OwnChairModel", "canTake", "(III)Z"⟩, 80), (⟨"OwnChairModel", "minutesOf", "(III)I"⟩, 80), (⟨"OwnChairModel", "carrying", "(III)I"⟩, 80), (⟨"OwnChairModel", "reckons", "(II)J"⟩, 80), (⟨"OwnChairModel", "part", "(II)J"⟩, 80), (⟨"OwnChairModel", "keeps", "()V"⟩, 80), (⟨"OwnChairModel", "goes", "(III)V"⟩, 80), (⟨"OwnChairModel", "isLater", "(II)V"⟩, 80), (⟨"OwnChairModel", "writesDown", "(IIII)V"⟩, 80), (⟨"OwnChairModel", "draw", "(I)I"⟩, 80)]
theorem lw_r7 : ∀ q ∈ lw_privs_7, lw_okq q := List.forall_mem_cons.mpr ⟨lw_p96, List.forall_mem_cons.mpr ⟨lw_p97, List.forall_mem_cons.mpr ⟨lw_p98, List.forall_mem_cons.mpr ⟨lw_p99, List.forall_mem_cons.mpr ⟨lw_p100, List.forall_mem_cons.mpr ⟨lw_p101, List.forall_mem_cons.mpr ⟨lw_p102, List.forall_mem_cons.mpr ⟨lw_p103, List.forall_mem_cons.mpr ⟨lw_p104, List.forall_mem_cons.mpr ⟨lw_p105, List.forall_mem_cons.mpr ⟨lw_p106, List.forall_mem_cons.mpr ⟨lw_p107, List.forall_mem_cons.mpr ⟨lw_p108, List.forall_mem_cons.mpr ⟨lw_p109, List.forall_mem_cons.mpr ⟨lw_p110, List.forall_mem_cons.mpr ⟨lw_p111, fun _ h => absurd h List.not_mem_nil⟩⟩⟩⟩⟩⟩⟩⟩⟩⟩⟩⟩⟩⟩⟩⟩
theorem lw_p112 : lw_okq (⟨"OwnChairModel", "waits", "(II)V"⟩, 80) := ⟨⟨by decide +kernel, by decide +kernel⟩, List.mem_of_getElem? (i := 1137) (by decide +kernel), List.mem_of_getElem? (i := 1759) (by decide +kernel), List.mem_of_getElem? (i := 1760) (by decide +kernel)⟩
theorem lw_p113 : lw_okq (⟨"OwnChairModel", "aching", "(II)I"⟩, 80) := ⟨⟨by decide +kernel, by decide +kernel⟩, List.mem_of_getElem? (i := 1137) (by decide +kernel), List.mem_of_getElem? (i := 1763) (by decide +kernel), List.mem_of_getElem? (i := 1764) (by decide +kernel)⟩
theorem lw_p114 : lw_okq (⟨"OwnChairModel", "dayOf", "(I)Z"⟩, 80) := ⟨⟨by decide +kernel, by decide +kernel⟩, List.mem_of_getElem? (i := 1137) (by decide +kernel), List.mem_of_getElem? (i := 1775) (by decide +kernel), List.mem_of_getElem? (i := 1776) (by decide +kernel)⟩
theorem lw_p115 : lw_okq (⟨"OwnChairModel", "nthWay", "(II)I"⟩, 80) := ⟨⟨by decide +kernel, by decide +kernel⟩, List.mem_of_getElem? (i := 1137) (by decide +kernel), List.mem_of_getElem? (i := 1779) (by decide +kernel), List.mem_of_getElem? (i := 1780) (by decide +kernel)⟩
theorem lw_p116 : lw_okq (⟨"OwnChairModel", "routing", "(IIIIZ)I"⟩, 80) := ⟨⟨by decide +kernel, by decide +kernel⟩, List.mem_of_getElem? (i := 1137) (by decide +kernel), List.mem_of_getElem? (i := 1795) (by decide +kernel), List.mem_of_getElem? (i := 1796) (by decide +kernel)⟩
theorem lw_p117 : lw_okq (⟨"OwnChairModel", "steps", "(II)V"⟩, 80) := ⟨⟨by decide +kernel, by decide +kernel⟩, List.mem_of_getElem? (i := 1137) (by decide +kernel), List.mem_of_getElem? (i := 1799) (by decide +kernel), List.mem_of_getElem? (i := 1800) (by decide +kernel)⟩
theorem lw_p118 : lw_okq (⟨"OwnChairModel", "rests", "(I)V"⟩, 80) := ⟨⟨by decide +kernel, by decide +kernel⟩, List.mem_of_getElem? (i := 1137) (by decide +kernel), List.mem_of_getElem? (i := 1804) (by decide +kernel), List.mem_of_getElem? (i := 1805) (by decide +kernel)⟩
theorem lw_p119 : lw_okq (⟨"OwnChairModel", "nextOf", "(I)I"⟩, 80) := ⟨⟨by decide +kernel, by decide +kernel⟩, List.mem_of_getElem? (i := 1137) (by decide +kernel), List.mem_of_getElem? (i := 1808) (by decide +kernel), List.mem_of_getElem? (i := 1809) (by decide +kernel)⟩
theorem lw_p120 : lw_okq (⟨"OwnChairModel", "isErrand", "(II)Z"⟩, 80) := ⟨⟨by decide +kernel, by decide +kernel⟩, List.mem_of_getElem? (i := 1137) (by decide +kernel), List.mem_of_getElem? (i := 1820) (by decide +kernel), List.mem_of_getElem? (i := 1821) (by decide +kernel)⟩
theorem lw_p121 : lw_okq (⟨"OwnChairModel", "errandBy", "(III)I"⟩, 80) := ⟨⟨by decide +kernel, by decide +kernel⟩, List.mem_of_getElem? (i := 1137) (by decide +kernel), List.mem_of_getElem? (i := 1824) (by decide +kernel), List.mem_of_getElem? (i := 1825) (by decide +kernel)⟩
theorem lw_p122 : lw_okq (⟨"OwnChairModel", "canSit", "(II)Z"⟩, 80) := ⟨⟨by decide +kernel, by decide +kernel⟩, List.mem_of_getElem? (i := 1137) (by decide +kernel), List.mem_of_getElem? (i := 1842) (by decide +kernel), List.mem_of_getElem? (i := 1843) (by decide +kernel)⟩
theorem lw_p123 : lw_okq (⟨"OwnChairModel", "isStanding", "(I)Z"⟩, 80) := ⟨⟨by decide +kernel, by decide +kernel⟩, List.mem_of_getElem? (i := 1137) (by decide +kernel), List.mem_of_getElem? (i := 1850) (by decide +kernel), List.mem_of_getElem? (i := 1851) (by decide +kernel)⟩
theorem lw_p124 : lw_okq (⟨"OwnChairModel", "waysWith", "(II)I"⟩, 80) := ⟨⟨by decide +kernel, by decide +kernel⟩, List.mem_of_getElem? (i := 1137) (by decide +kernel), List.mem_of_getElem? (i := 1854) (by decide +kernel), List.mem_of_getElem? (i := 1855) (by decide +kernel)⟩
theorem lw_p125 : lw_okq (⟨"OwnChairModel", "rowOf", "(I)I"⟩, 80) := ⟨⟨by decide +kernel, by decide +kernel⟩, List.mem_of_getElem? (i := 1137) (by decide +kernel), List.mem_of_getElem? (i := 1858) (by decide +kernel), List.mem_of_getElem? (i := 1859) (by decide +kernel)⟩
theorem lw_p126 : lw_okq (⟨"OwnChairModel", "writes", "(I)V"⟩, 80) := ⟨⟨by decide +kernel, by decide +kernel⟩, List.mem_of_getElem? (i := 1137) (by decide +kernel), List.mem_of_getElem? (i := 1870) (by decide +kernel), List.mem_of_getElem? (i := 1871) (by decide +kernel)⟩
theorem lw_p127 : lw_okq (⟨"OwnChairModel", "writesThree", "(I)V"⟩, 80) := ⟨⟨by decide +kernel, by decide +kernel⟩, List.mem_of_getElem? (i := 1137) (by decide +kernel), List.mem_of_getElem? (i := 1874) (by decide +kernel), List.mem_of_getElem? (i := 1875) (by decide +kernel)⟩
def lw_privs_8 : List (MethodName × Nat) := [(⟨"OwnChairModel", "waits", "(II)V"⟩, 80), (⟨"OwnChairModel", "aching", "(II)I"⟩, 80), (⟨"OwnChairModel", "dayOf", "(I)Z"⟩, 80), (⟨"OwnChairModel", "nthWay", "(II)I"⟩, 80), (⟨"OwnChairModel", "routing", "(IIIIZ)I"⟩, 80), (⟨"OwnChairModel", "steps", "(II)V"⟩, 80), (⟨"OwnChairModel", "rests", "(I)V"⟩, 80), (⟨"OwnChairModel", "nextOf", "(I)I"⟩, 80), (⟨"OwnChairModel", "isErrand", "(II)Z"⟩, 80), (⟨"OwnChairModel", "errandBy", "(III)I"⟩, 80), (⟨"OwnChairModel", "canSit", "(II)Z"⟩, 80), (⟨"OwnChairModel", "isStanding", "(I)Z"⟩, 80), (⟨"OwnChairModel", "waysWith", "(II)I"⟩, 80), (⟨"OwnChairModel", "rowOf", "(I)I"⟩, 80), (⟨"OwnChairModel", "writes", "(I)V"⟩, 80), (⟨"OwnChairModel", "writesThree", "(I)V"⟩, 80)]
theorem lw_r8 : ∀ q ∈ lw_privs_8, lw_okq q := List.forall_mem_cons.mpr ⟨lw_p112, List.forall_mem_cons.mpr ⟨lw_p113, List.forall_mem_cons.mpr ⟨lw_p114, List.forall_mem_cons.mpr ⟨lw_p115, List.forall_mem_cons.mpr ⟨lw_p116, List.forall_mem_cons.mpr ⟨lw_p117, List.forall_mem_cons.mpr ⟨lw_p118, List.forall_mem_cons.mpr ⟨lw_p119, List.forall_mem_cons.mpr ⟨lw_p120, List.forall_mem_cons.mpr ⟨lw_p121, List.forall_mem_cons.mpr ⟨lw_p122, List.forall_mem_cons.mpr ⟨lw_p123, List.forall_mem_cons.mpr ⟨lw_p124, List.forall_mem_cons.mpr ⟨lw_p125, List.forall_mem_cons.mpr ⟨lw_p126, List.forall_mem_cons.mpr ⟨lw_p127, fun _ h => absurd h List.not_mem_nil⟩⟩⟩⟩⟩⟩⟩⟩⟩⟩⟩⟩⟩⟩⟩⟩
theorem lw_p128 : lw_okq (⟨"OwnChairModel", "comesOn", "(I)Z"⟩, 80) := ⟨⟨by decide +kernel, by decide +kernel⟩, List.mem_of_getElem? (i := 1137) (by decide +kernel), List.mem_of_getElem? (i := 1886) (by decide +kernel), List.mem_of_getElem? (i := 1887) (by decide +kernel)⟩
theorem lw_p129 : lw_okq (⟨"OwnChairModel", "personOn", "(II)Z"⟩, 80) := ⟨⟨by decide +kernel, by decide +kernel⟩, List.mem_of_getElem? (i := 1137) (by decide +kernel), List.mem_of_getElem? (i := 1890) (by decide +kernel), List.mem_of_getElem? (i := 1891) (by decide +kernel)⟩
theorem lw_p130 : lw_okq (⟨"OwnChairModel", "threeBytes", "(I)I"⟩, 80) := ⟨⟨by decide +kernel, by decide +kernel⟩, List.mem_of_getElem? (i := 1137) (by decide +kernel), List.mem_of_getElem? (i := 1894) (by decide +kernel), List.mem_of_getElem? (i := 1895) (by decide +kernel)⟩
def lw_privs_9 : List (MethodName × Nat) := [(⟨"OwnChairModel", "comesOn", "(I)Z"⟩, 80), (⟨"OwnChairModel", "personOn", "(II)Z"⟩, 80), (⟨"OwnChairModel", "threeBytes", "(I)I"⟩, 80)]
theorem lw_r9 : ∀ q ∈ lw_privs_9, lw_okq q := List.forall_mem_cons.mpr ⟨lw_p128, List.forall_mem_cons.mpr ⟨lw_p129, List.forall_mem_cons.mpr ⟨lw_p130, fun _ h => absurd h List.not_mem_nil⟩⟩⟩
def lw_privs : List (MethodName × Nat) := lw_privs_1 ++ (lw_privs_2 ++ (lw_privs_3 ++ (lw_privs_4 ++ (lw_privs_5 ++ (lw_privs_6 ++ (lw_privs_7 ++ (lw_privs_8 ++ (lw_privs_9))))))))
def lw_tbl : List Cond := k2_sels lw_privs ++ tables_1
theorem lw_privs_ok : ∀ q ∈ lw_privs, lw_okq q := by
  show ∀ q ∈ lw_privs_1 ++ (lw_privs_2 ++ (lw_privs_3 ++ (lw_privs_4 ++ (lw_privs_5 ++ (lw_privs_6 ++ (lw_privs_7 ++ (lw_privs_8 ++ (lw_privs_9)))))))), lw_okq q
  exact List.forall_mem_append.mpr ⟨lw_r1, List.forall_mem_append.mpr ⟨lw_r2, List.forall_mem_append.mpr ⟨lw_r3, List.forall_mem_append.mpr ⟨lw_r4, List.forall_mem_append.mpr ⟨lw_r5, List.forall_mem_append.mpr ⟨lw_r6, List.forall_mem_append.mpr ⟨lw_r7, List.forall_mem_append.mpr ⟨lw_r8, lw_r9⟩⟩⟩⟩⟩⟩⟩⟩
end
section
/-! An executor of bytecode over abstract values. A value: tag (0 int, 1 long, 2 null, 3 a cell by its number, 4 the script), a symbol or none, a number. -/
abbrev xV : Type := Nat × Option Nat × Int
/-- an array: element type (0 int, 1 long, 2 boolean), length, bounds of the places that aren't listed, listed places -/
abbrev xA : Type := Nat × Nat × Int × Int × List (Nat × xV)
abbrev xC : Type := xA ⊕ (Nat × List xV)
abbrev xE : Type := List (Int × Int)
/-- a frame: method, pc, locals, stack, cells and slots used -/
abbrev xF : Type := Nat × Nat × List (Nat × xV) × List xV × Nat × Nat
abbrev xS : Type := List xF × List xC × xE
def x_ext {α : Type} (a b : List α) : Prop := ∃ t, b = a ++ t
theorem x_ext.rf {α : Type} (a : List α) : x_ext a a := ⟨[], by simp⟩
theorem x_ext.tr {α : Type} {a b c : List α} (h : x_ext a b) (g : x_ext b c) : x_ext a c := by
  obtain ⟨t, rfl⟩ := h
  obtain ⟨u, rfl⟩ := g
  exact ⟨t ++ u, by rw [List.append_assoc]⟩
theorem x_ext.get {α : Type} {a b : List α} (h : x_ext a b) {i : Nat} {q : α} (e : a[i]? = some q) : b[i]? = some q := by
  obtain ⟨t, rfl⟩ := h
  rw [List.getElem?_append_left (List.getElem?_eq_some_iff.mp e).1]
  exact e
theorem x_ext.app {α : Type} (a t : List α) : x_ext a (a ++ t) := ⟨t, rfl⟩
def x_ev (ρ : List Int) (b : Option Nat) (c r : Int) : Prop := match b with
  | none => r = c
  | some i => ∃ q, ρ[i]? = some q ∧ r = q + c
theorem x_ev.mono {ρ ρ' : List Int} {b : Option Nat} {c r : Int} (h : x_ext ρ ρ') (g : x_ev ρ b c r) : x_ev ρ' b c r := by
  cases b with
  | none => exact g
  | some i =>
    obtain ⟨q, h1, h2⟩ := g
    exact ⟨q, h.get h1, h2⟩
def x_val (ρ : List Int) (ad : List Nat) (sc : Nat) (v : xV) (x : Value) : Prop := match v.1 with
  | 0 => ∃ n : Int32, x = .int n ∧ x_ev ρ v.2.1 v.2.2 n.toInt
  | 1 => ∃ n : Int64, x = .long n ∧ x_ev ρ v.2.1 v.2.2 n.toInt
  | 2 => x = .null
  | 3 => ∃ a, x = .ref a ∧ ad[v.2.2.toNat]? = some a
  | _ => x = .ref sc
theorem x_val.mono {ρ ρ' : List Int} {ad ad' : List Nat} {sc : Nat} {v : xV} {x : Value} (h1 : x_ext ρ ρ') (h2 : x_ext ad ad') (h : x_val ρ ad sc v x) : x_val ρ' ad' sc v x := by
  obtain ⟨t, b, c⟩ := v
  match t, h with
  | 0, ⟨n, e, g⟩ => exact ⟨n, e, g.mono h1⟩
  | 1, ⟨n, e, g⟩ => exact ⟨n, e, g.mono h1⟩
  | 2, h => exact h
  | 3, ⟨a, e, g⟩ => exact ⟨a, e, h2.get g⟩
  | _ + 4, h => exact h
def x_vals (ρ : List Int) (ad : List Nat) (sc : Nat) : List xV → List Value → Prop
  | [], [] => True
  | v :: vs, x :: xs => x_val ρ ad sc v x ∧ x_vals ρ ad sc vs xs
  | _, _ => False
theorem x_vals.mono {ρ ρ' : List Int} {ad ad' : List Nat} {sc : Nat} (h1 : x_ext ρ ρ') (h2 : x_ext ad ad') : ∀ {vs : List xV} {xs : List Value}, x_vals ρ ad sc vs xs → x_vals ρ' ad' sc vs xs
  | [], [], _ => trivial
  | _ :: _, _ :: _, h => ⟨h.1.mono h1 h2, x_vals.mono h1 h2 h.2⟩
  | [], _ :: _, h => h.elim
  | _ :: _, [], h => h.elim
theorem x_vals.len {ρ : List Int} {ad : List Nat} {sc : Nat} : ∀ {vs : List xV} {xs : List Value}, x_vals ρ ad sc vs xs → vs.length = xs.length
  | [], [], _ => rfl
  | _ :: _, _ :: _, h => by simp [x_vals.len h.2]
  | [], _ :: _, h => h.elim
  | _ :: _, [], h => h.elim
theorem x_vals.nil {ρ : List Int} {ad : List Nat} {sc : Nat} {xs : List Value} (h : x_vals ρ ad sc [] xs) : xs = [] := by
  cases xs with
  | nil => rfl
  | cons _ _ => exact h.elim
theorem x_vals.cons {ρ : List Int} {ad : List Nat} {sc : Nat} {v : xV} {vs : List xV} {xs : List Value} (h : x_vals ρ ad sc (v :: vs) xs) : ∃ x ys, xs = x :: ys ∧ x_val ρ ad sc v x ∧ x_vals ρ ad sc vs ys := by
  cases xs with
  | nil => exact h.elim
  | cons x ys => exact ⟨x, ys, rfl, h.1, h.2⟩
theorem x_vals.get {ρ : List Int} {ad : List Nat} {sc : Nat} : ∀ {vs : List xV} {xs : List Value}, x_vals ρ ad sc vs xs → ∀ {k : Nat} {v : xV}, vs[k]? = some v → ∃ x, xs[k]? = some x ∧ x_val ρ ad sc v x
  | [], [], _, k, v, e => by simp at e
  | a :: vs, b :: xs, h, k, v, e => by
    cases k with
    | zero => simp at e; subst e; exact ⟨b, by simp, h.1⟩
    | succ k =>
      simp at e
      obtain ⟨x, h1, h2⟩ := x_vals.get h.2 e
      exact ⟨x, by simpa using h1, h2⟩
  | [], _ :: _, h, _, _, _ => h.elim
  | _ :: _, [], h, _, _, _ => h.elim
theorem x_vals.set {ρ : List Int} {ad : List Nat} {sc : Nat} : ∀ {vs : List xV} {xs : List Value}, x_vals ρ ad sc vs xs → ∀ {k : Nat} {v : xV} {x : Value}, x_val ρ ad sc v x → x_vals ρ ad sc (vs.set k v) (xs.set k x)
  | [], [], _, k, v, x, _ => by simp [x_vals]
  | a :: vs, b :: xs, h, k, v, x, g => by
    cases k with
    | zero => exact ⟨g, h.2⟩
    | succ k => exact ⟨h.1, x_vals.set h.2 g⟩
  | [], _ :: _, h, _, _, _, _ => h.elim
  | _ :: _, [], h, _, _, _, _ => h.elim
theorem x_vals.app {ρ : List Int} {ad : List Nat} {sc : Nat} : ∀ {vs ws : List xV} {xs ys : List Value}, x_vals ρ ad sc vs xs → x_vals ρ ad sc ws ys → x_vals ρ ad sc (vs ++ ws) (xs ++ ys)
  | [], _, [], _, _, g => g
  | _ :: _, _, _ :: _, _, h, g => ⟨h.1, x_vals.app h.2 g⟩
  | [], _, _ :: _, _, h, _ => h.elim
  | _ :: _, _, [], _, h, _ => h.elim
theorem x_vals.rev {ρ : List Int} {ad : List Nat} {sc : Nat} : ∀ {vs : List xV} {xs : List Value}, x_vals ρ ad sc vs xs → x_vals ρ ad sc vs.reverse xs.reverse
  | [], [], _ => trivial
  | v :: vs, x :: xs, h => by
    rw [List.reverse_cons, List.reverse_cons]
    exact x_vals.app (x_vals.rev h.2) ⟨h.1, trivial⟩
  | [], _ :: _, h => h.elim
  | _ :: _, [], h => h.elim
theorem x_vals.take {ρ : List Int} {ad : List Nat} {sc : Nat} : ∀ {vs : List xV} {xs : List Value} (n : Nat), x_vals ρ ad sc vs xs → x_vals ρ ad sc (vs.take n) (xs.take n)
  | _, _, 0, _ => trivial
  | [], [], _ + 1, _ => trivial
  | _ :: _, _ :: _, n + 1, h => ⟨h.1, x_vals.take n h.2⟩
  | [], _ :: _, _ + 1, h => h.elim
  | _ :: _, [], _ + 1, h => h.elim
theorem x_vals.drop {ρ : List Int} {ad : List Nat} {sc : Nat} : ∀ {vs : List xV} {xs : List Value} (n : Nat), x_vals ρ ad sc vs xs → x_vals ρ ad sc (vs.drop n) (xs.drop n)
  | _, _, 0, h => h
  | [], [], _ + 1, _ => trivial
  | _ :: _, _ :: _, n + 1, h => x_vals.drop n h.2
  | [], _ :: _, _ + 1, h => h.elim
  | _ :: _, [], _ + 1, h => h.elim
/-- category by tag -/
def x_cat (v : xV) : Nat := if v.1 = 1 then 2 else 1
theorem x_val.cat {ρ : List Int} {ad : List Nat} {sc : Nat} {v : xV} {x : Value} (h : x_val ρ ad sc v x) : x.category = x_cat v := by
  obtain ⟨t, b, c⟩ := v
  match t, h with
  | 0, ⟨n, e, g⟩ => subst e; rfl
  | 1, ⟨n, e, g⟩ => subst e; rfl
  | 2, h => cases h; rfl
  | 3, ⟨a, e, g⟩ => subst e; rfl
  | t + 4, h =>
    cases h
    show 1 = x_cat (t + 4, b, c)
    have : ¬ (t + 4 = 1) := by omega
    simp [x_cat, this]
/-- locals -/
def x_locs (ρ : List Int) (ad : List Nat) (sc : Nat) : List (Nat × xV) → List (Nat × Value) → Prop
  | [], [] => True
  | v :: vs, x :: xs => v.1 = x.1 ∧ x_val ρ ad sc v.2 x.2 ∧ x_locs ρ ad sc vs xs
  | _, _ => False
theorem x_locs.mono {ρ ρ' : List Int} {ad ad' : List Nat} {sc : Nat} (h1 : x_ext ρ ρ') (h2 : x_ext ad ad') : ∀ {vs : List (Nat × xV)} {xs : List (Nat × Value)}, x_locs ρ ad sc vs xs → x_locs ρ' ad' sc vs xs
  | [], [], _ => trivial
  | _ :: _, _ :: _, h => ⟨h.1, h.2.1.mono h1 h2, x_locs.mono h1 h2 h.2.2⟩
  | [], _ :: _, h => h.elim
  | _ :: _, [], h => h.elim
def x_find : List (Nat × xV) → Nat → Option xV
  | [], _ => none
  | q :: l, i => if q.1 = i then some q.2 else x_find l i
theorem x_locs.find {ρ : List Int} {ad : List Nat} {sc : Nat} {i : Nat} {v : xV} : ∀ {vs : List (Nat × xV)} {xs : List (Nat × Value)}, x_locs ρ ad sc vs xs → x_find vs i = some v → ∃ (x : Value) (k : Nat), xs[k]? = some (i, x) ∧ x_val ρ ad sc v x
  | [], [], _, e => by simp [x_find] at e
  | q :: vs, y :: xs, h, e => by
    unfold x_find at e
    by_cases hq : q.1 = i
    · rw [if_pos hq] at e
      obtain ⟨a, b⟩ := y
      have h1 : q.1 = a := h.1
      cases e
      exact ⟨b, 0, by simp [← h1, hq], h.2.1⟩
    · rw [if_neg hq] at e
      obtain ⟨x, k, g1, g2⟩ := x_locs.find h.2.2 e
      exact ⟨x, k + 1, by simpa using g1, g2⟩
  | [], _ :: _, h, _ => h.elim
  | _ :: _, [], h, _ => h.elim
def x_put1 (l : List (Nat × xV)) (i : Nat) (v : xV) : List (Nat × xV) := (i, v) :: l.filter (fun q => !(q.1 == i) && !(q.1 + 1 == i && x_cat q.2 == 2))
def x_put2 (l : List (Nat × xV)) (i : Nat) (v : xV) : List (Nat × xV) := (i, v) :: l.filter (fun q => !(q.1 == i) && (!(q.1 == i + 1) && !(q.1 + 1 == i && x_cat q.2 == 2)))
theorem x_locs.filter {ρ : List Int} {ad : List Nat} {sc : Nat} (F : Nat → Nat → Bool) : ∀ {vs : List (Nat × xV)} {xs : List (Nat × Value)}, x_locs ρ ad sc vs xs → x_locs ρ ad sc (vs.filter (fun q => F q.1 (x_cat q.2))) (xs.filter (fun q => F q.1 q.2.category))
  | [], [], _ => trivial
  | q :: vs, y :: xs, h => by
    obtain ⟨a, v⟩ := q
    obtain ⟨b, x⟩ := y
    have h1 : a = b := h.1
    subst h1
    have hc : x.category = x_cat v := h.2.1.cat
    have ih := x_locs.filter F h.2.2
    by_cases hF : F a (x_cat v) = true
    · rw [List.filter_cons_of_pos (by simpa using hF), List.filter_cons_of_pos (by simpa [hc] using hF)]
      exact ⟨rfl, h.2.1, ih⟩
    · rw [List.filter_cons_of_neg (by simpa using hF), List.filter_cons_of_neg (by simpa [hc] using hF)]
      exact ih
  | [], _ :: _, h => h.elim
  | _ :: _, [], h => h.elim
theorem x_locs.put1 {ρ : List Int} {ad : List Nat} {sc : Nat} {vs : List (Nat × xV)} {xs : List (Nat × Value)} {i : Nat} {v : xV} {x : Value} (h : x_locs ρ ad sc vs xs) (g : x_val ρ ad sc v x) :
    x_locs ρ ad sc (x_put1 vs i v) ((i, x) :: xs.filter (fun q => !(q.1 == i) && !(q.1 + 1 == i && q.2.category == 2))) :=
  ⟨rfl, g, x_locs.filter (fun a c => !(a == i) && !(a + 1 == i && c == 2)) h⟩
theorem x_locs.put2 {ρ : List Int} {ad : List Nat} {sc : Nat} {vs : List (Nat × xV)} {xs : List (Nat × Value)} {i : Nat} {v : xV} {x : Value} (h : x_locs ρ ad sc vs xs) (g : x_val ρ ad sc v x) :
    x_locs ρ ad sc (x_put2 vs i v) ((i, x) :: xs.filter (fun q => !(q.1 == i) && (!(q.1 == i + 1) && !(q.1 + 1 == i && q.2.category == 2)))) :=
  ⟨rfl, g, x_locs.filter (fun a c => !(a == i) && (!(a == i + 1) && !(a + 1 == i && c == 2))) h⟩
/-- the locals with which a method begins -/
def x_args : Nat → List xV → List (Nat × xV)
  | _, [] => []
  | i, v :: vs => (i, v) :: x_args (if x_cat v = 2 then i + 2 else i + 1) vs
theorem x_vals.args {ρ : List Int} {ad : List Nat} {sc : Nat} : ∀ {vs : List xV} {xs : List Value} (i : Nat), x_vals ρ ad sc vs xs → x_locs ρ ad sc (x_args i vs) (lv_args i xs)
  | [], [], _, _ => trivial
  | v :: vs, x :: xs, i, h => by
    have hc : x.category = x_cat v := h.1.cat
    refine ⟨rfl, h.1, ?_⟩
    show x_locs ρ ad sc (x_args (if x_cat v = 2 then i + 2 else i + 1) vs) (lv_args (if x.category = 2 then i + 2 else i + 1) xs)
    rw [hc]
    exact x_vals.args _ h.2
  | [], _ :: _, _, h => h.elim
  | _ :: _, [], _, h => h.elim
/-- symbols and their bounds -/
def x_env (ρ : List Int) (E : xE) : Prop := ρ.length = E.length ∧ ∀ (i : Nat) (q : Int × Int) (r : Int), E[i]? = some q → ρ[i]? = some r → q.1 ≤ r ∧ r ≤ q.2
def x_iv (E : xE) (v : xV) : Int × Int := match v.2.1 with
  | none => (v.2.2, v.2.2)
  | some i => match E[i]? with
    | some q => (q.1 + v.2.2, q.2 + v.2.2)
    | none => (v.2.2, v.2.2)
theorem x_iv_ok {ρ : List Int} {E : xE} (h : x_env ρ E) {v : xV} {r : Int} (g : x_ev ρ v.2.1 v.2.2 r) : (x_iv E v).1 ≤ r ∧ r ≤ (x_iv E v).2 := by
  obtain ⟨t, b, c⟩ := v
  cases b with
  | none => have g : r = c := g; subst g; exact ⟨Int.le_refl _, Int.le_refl _⟩
  | some i =>
    obtain ⟨q, h1, h2⟩ := g
    have hl : i < E.length := by rw [← h.1]; exact (List.getElem?_eq_some_iff.mp h1).1
    have he : E[i]? = some E[i] := List.getElem?_eq_getElem hl
    have hb := h.2 i _ q he h1
    simp only [x_iv, he]
    have h2 : r = q + c := h2
    omega
def x_cap (E : xE) (v : xV) (lo hi : Int) : xE := match v.2.1 with
  | none => E
  | some i => match E[i]? with
    | some q => E.set i (max q.1 (lo - v.2.2), min q.2 (hi - v.2.2))
    | none => E
theorem x_cap_ok {ρ : List Int} {E : xE} (h : x_env ρ E) {v : xV} {r lo hi : Int} (g : x_ev ρ v.2.1 v.2.2 r) (h1 : lo ≤ r) (h2 : r ≤ hi) : x_env ρ (x_cap E v lo hi) := by
  obtain ⟨t, b, c⟩ := v
  cases b with
  | none => exact h
  | some i =>
    obtain ⟨q, g1, g2⟩ := g
    have g2 : r = q + c := g2
    have hl : i < E.length := by rw [← h.1]; exact (List.getElem?_eq_some_iff.mp g1).1
    have he : E[i]? = some E[i] := List.getElem?_eq_getElem hl
    simp only [x_cap, he]
    refine ⟨by rw [List.length_set]; exact h.1, fun j q' r' e1 e2 => ?_⟩
    by_cases hj : i = j
    · subst hj
      rw [List.getElem?_set_self hl] at e1
      cases e1
      have hb := h.2 i _ r' he e2
      have e3 : q = r' := by rw [g1] at e2; exact Option.some.inj e2
      refine ⟨?_, ?_⟩
      · show max _ _ ≤ r'
        omega
      · show r' ≤ min _ _
        omega
    · rw [List.getElem?_set_ne hj] at e1
      exact h.2 j q' r' e1 e2
/-- a new symbol -/
theorem x_env.new {ρ : List Int} {E : xE} (h : x_env ρ E) {r lo hi : Int} (h1 : lo ≤ r) (h2 : r ≤ hi) : x_env (ρ ++ [r]) (E ++ [(lo, hi)]) := by
  refine ⟨by simp [h.1], fun i q r' e1 e2 => ?_⟩
  by_cases hi' : i < E.length
  · rw [List.getElem?_append_left hi'] at e1
    rw [List.getElem?_append_left (by rw [h.1]; exact hi')] at e2
    exact h.2 i q r' e1 e2
  · rw [List.getElem?_append_right (by omega)] at e1
    rw [List.getElem?_append_right (by rw [h.1]; omega)] at e2
    have hz : i - E.length < 1 := (List.getElem?_eq_some_iff.mp e1).1
    have e0 : i - E.length = 0 := by omega
    rw [e0] at e1
    rw [h.1, e0] at e2
    cases e1
    cases e2
    exact ⟨h1, h2⟩
theorem x_ev.new {ρ : List Int} {E : xE} (h : x_env ρ E) (r : Int) : x_ev (ρ ++ [r]) (some E.length) 0 r := by
  refine ⟨r, ?_, by omega⟩
  rw [← h.1, List.getElem?_append_right (Nat.le_refl _)]
  simp
theorem x_i32 (n : Int32) : -2147483648 ≤ n.toInt ∧ n.toInt ≤ 2147483647 := by
  have h1 := Int32.le_toInt n
  have h2 := Int32.toInt_lt n
  omega
theorem x_i64 (n : Int64) : -9223372036854775808 ≤ n.toInt ∧ n.toInt ≤ 9223372036854775807 := by
  have h1 := Int64.le_toInt n
  have h2 := Int64.toInt_lt n
  omega
end
section
/-! the executor -/
abbrev xP : Type := (Nat → Nat → Option (Instr × Nat)) × (Nat → Nat → Nat × Nat × Int) × (Nat → Nat × Nat × Nat × Nat × Nat) × (Nat → List Nat) × (Nat → MethodName) × (Nat → ByteArray) × (Nat → Option FieldType)
def x_code (P : xP) : Nat → Nat → Option (Instr × Nat) := P.1
def x_pool (P : xP) : Nat → Nat → Nat × Nat × Int := P.2.1
def x_maxL (P : xP) (m : Nat) : Nat := (P.2.2.1 m).1
def x_retk (P : xP) (m : Nat) : Nat := (P.2.2.1 m).2.1
def x_mc (P : xP) (m : Nat) : Nat := (P.2.2.1 m).2.2.1
def x_ms (P : xP) (m : Nat) : Nat := (P.2.2.1 m).2.2.2.1
def x_mci (P : xP) (m : Nat) : Nat := (P.2.2.1 m).2.2.2.2
def x_cls (P : xP) : Nat → List Nat := P.2.2.2.1
def x_nm (P : xP) : Nat → MethodName := P.2.2.2.2.1
def x_by (P : xP) : Nat → ByteArray := P.2.2.2.2.2.1
def x_rt (P : xP) : Nat → Option FieldType := P.2.2.2.2.2.2
/-- a new symbol with bounds -/
def x_fresh (t : Nat) (E : xE) (lo hi : Int) : xV × xE := ((t, some E.length, 0), E ++ [(lo, hi)])
def x_top32 (E : xE) : xV × xE := x_fresh 0 E (-2147483648) 2147483647
def x_top64 (E : xE) : xV × xE := x_fresh 1 E (-9223372036854775808) 9223372036854775807
def x_in32 (lo hi : Int) : Bool := decide (-2147483648 ≤ lo) && decide (hi ≤ 2147483647)
def x_bin (op : Int32 → Int32 → Int32) (E : xE) (v w : xV) : xV × xE := match v.2.1, w.2.1 with
  | none, none => ((0, none, (op (Int32.ofInt v.2.2) (Int32.ofInt w.2.2)).toInt), E)
  | _, _ => x_top32 E
def x_binL (op : Int64 → Int64 → Int64) (E : xE) (v w : xV) : xV × xE := match v.2.1, w.2.1 with
  | none, none => ((1, none, (op (Int64.ofInt v.2.2) (Int64.ofInt w.2.2)).toInt), E)
  | _, _ => x_top64 E
def x_shL (op : Int64 → Int32 → Int64) (E : xE) (v w : xV) : xV × xE := match v.2.1, w.2.1 with
  | none, none => ((1, none, (op (Int64.ofInt v.2.2) (Int32.ofInt w.2.2)).toInt), E)
  | _, _ => x_top64 E
def x_cmpL (E : xE) (v w : xV) : xV × xE := match v.2.1, w.2.1 with
  | none, none => ((0, none, (lg_cmp (Int64.ofInt v.2.2) (Int64.ofInt w.2.2)).toInt), E)
  | _, _ => x_top32 E
def x_addc (E : xE) (v : xV) (c : Int) : xV × xE := match v.2.1 with
  | none => ((0, none, (Int32.ofInt v.2.2 + Int32.ofInt c).toInt), E)
  | some i => if x_in32 ((x_iv E v).1 + c) ((x_iv E v).2 + c) = true then ((0, some i, v.2.2 + c), E) else x_top32 E
def x_subc (E : xE) (v : xV) (c : Int) : xV × xE := match v.2.1 with
  | none => ((0, none, (Int32.ofInt v.2.2 - Int32.ofInt c).toInt), E)
  | some i => if x_in32 ((x_iv E v).1 - c) ((x_iv E v).2 - c) = true then ((0, some i, v.2.2 - c), E) else x_top32 E
def x_add (E : xE) (v w : xV) : xV × xE := match w.2.1 with
  | none => x_addc E v w.2.2
  | some _ => match v.2.1 with
    | none => x_addc E w v.2.2
    | some _ => if x_in32 ((x_iv E v).1 + (x_iv E w).1) ((x_iv E v).2 + (x_iv E w).2) = true then x_fresh 0 E ((x_iv E v).1 + (x_iv E w).1) ((x_iv E v).2 + (x_iv E w).2) else x_top32 E
def x_sub (E : xE) (v w : xV) : xV × xE := match w.2.1 with
  | none => x_subc E v w.2.2
  | some _ => if x_in32 ((x_iv E v).1 - (x_iv E w).2) ((x_iv E v).2 - (x_iv E w).1) = true then x_fresh 0 E ((x_iv E v).1 - (x_iv E w).2) ((x_iv E v).2 - (x_iv E w).1) else x_top32 E
def x_l2i (E : xE) (v : xV) : xV × xE := match v.2.1 with
  | none => ((0, none, (Int64.ofInt v.2.2).toInt32.toInt), E)
  | some i => if x_in32 (x_iv E v).1 (x_iv E v).2 = true then ((0, some i, v.2.2), E) else x_top32 E
def x_mn (E : xE) (v w : xV) : xV × xE := match v.2.1, w.2.1 with
  | none, none => ((0, none, min v.2.2 w.2.2), E)
  | _, _ => x_fresh 0 E (min (x_iv E v).1 (x_iv E w).1) (min (x_iv E v).2 (x_iv E w).2)
def x_mx (E : xE) (v w : xV) : xV × xE := match v.2.1, w.2.1 with
  | none, none => ((0, none, max v.2.2 w.2.2), E)
  | _, _ => x_fresh 0 E (max (x_iv E v).1 (x_iv E w).1) (max (x_iv E v).2 (x_iv E w).2)
/-- comparisons -/
def x_holds (c : ClassFile.Cond) (x y : Int) : Prop := match c with
  | .eq => x = y
  | .ne => ¬ x = y
  | .lt => x < y
  | .ge => ¬ x < y
  | .gt => y < x
  | .le => ¬ y < x
def x_neg : ClassFile.Cond → ClassFile.Cond
  | .eq => .ne
  | .ne => .eq
  | .lt => .ge
  | .ge => .lt
  | .gt => .le
  | .le => .gt
/-- can it be? by bounds -/
def x_can (c : ClassFile.Cond) (a b : Int × Int) : Bool := match c with
  | .eq => decide (a.1 ≤ b.2) && decide (b.1 ≤ a.2)
  | .ne => true
  | .lt => decide (a.1 < b.2)
  | .ge => decide (b.1 ≤ a.2)
  | .gt => decide (b.1 < a.2)
  | .le => decide (a.1 ≤ b.2)
def x_M : Int := 9223372036854775808
def x_asm (E : xE) (c : ClassFile.Cond) (v w : xV) : xE := match c with
  | .eq => x_cap (x_cap E v (x_iv E w).1 (x_iv E w).2) w (x_iv E v).1 (x_iv E v).2
  | .ne => E
  | .lt => x_cap (x_cap E v (-x_M) ((x_iv E w).2 - 1)) w ((x_iv E v).1 + 1) x_M
  | .ge => x_cap (x_cap E v (x_iv E w).1 x_M) w (-x_M) (x_iv E v).2
  | .gt => x_cap (x_cap E v ((x_iv E w).1 + 1) x_M) w (-x_M) ((x_iv E v).2 - 1)
  | .le => x_cap (x_cap E v (-x_M) (x_iv E w).2) w (x_iv E v).1 x_M
def x_alt (E : xE) (c : ClassFile.Cond) (v w : xV) : List xE := if x_can c (x_iv E v) (x_iv E w) = true then [x_asm E c v w] else []
def x_alts (E : xE) (c : ClassFile.Cond) (v w : xV) : List xE := match c with
  | .ne => if v.2 = w.2 then [] else x_alt E .lt v w ++ x_alt E .gt v w
  | c => x_alt E c v w
/-- an array's place, read and written -/
def x_rdD (t : Nat) (E : xE) (lo hi : Int) : xV × xE := if lo = hi then ((t, none, lo), E) else x_fresh t E lo hi
def x_rd (t : Nat) (E : xE) (a : xA) (i : xV) : Option (xV × xE) :=
  if 0 ≤ (x_iv E i).1 ∧ (x_iv E i).2 < (a.2.1 : Int) then
    match i.2.1 with
    | none => match x_find a.2.2.2.2 i.2.2.toNat with
      | some v => some ((t, v.2), E)
      | none => some (x_rdD t E a.2.2.1 a.2.2.2.1)
    | some _ => match a.2.2.2.2 with
      | [] => some (x_rdD t E a.2.2.1 a.2.2.2.1)
      | _ :: _ => some (if t = 0 then x_top32 E else x_top64 E)
  else none
def x_wr (t : Nat) (E : xE) (a : xA) (i v : xV) : Option xA :=
  if 0 ≤ (x_iv E i).1 ∧ (x_iv E i).2 < (a.2.1 : Int) then
    match i.2.1 with
    | none => if a.2.2.1 = a.2.2.2.1 ∧ v.2.1 = none ∧ v.2.2 = a.2.2.1 ∧ x_find a.2.2.2.2 i.2.2.toNat = none then some a
      else some (a.1, a.2.1, a.2.2.1, a.2.2.2.1, (i.2.2.toNat, v) :: a.2.2.2.2)
    | some _ => match a.2.2.2.2 with
      | [] => some (a.1, a.2.1, min a.2.2.1 (x_iv E v).1, max a.2.2.2.1 (x_iv E v).2, [])
      | _ :: _ => if t = 1 then some (a.1, a.2.1, -9223372036854775808, 9223372036854775807, []) else some (a.1, a.2.1, -2147483648, 2147483647, [])
  else none
def x_dflt : Nat → xV
  | 1 => (1, none, 0)
  | 2 => (2, none, 0)
  | _ => (0, none, 0)
/-- a field's kind (0 int, 1 long, 2 reference, 3 boolean; 10 more: final) takes the value -/
def x_fit (E : xE) (kd : Nat) (v : xV) : Bool := match kd % 10 with
  | 0 => v.1 == 0
  | 1 => v.1 == 1
  | 2 => v.1 == 2 || v.1 == 3
  | 3 => v.1 == 0 && decide (0 ≤ (x_iv E v).1) && decide ((x_iv E v).2 ≤ 1)
  | _ => false
section XSTEP
variable (P : xP) (m pc : Nat) (L : List (Nat × xV)) (st : List xV) (cc ss : Nat) (fs : List xF) (h : List xC) (E : xE)
def x_at (pc' : Nat) (L' : List (Nat × xV)) (st' : List xV) (E' : xE) : xS := ((m, pc', L', st', cc, ss) :: fs, h, E')
def x_ld (n t i : Nat) : Option (List xS) := match x_find L i with
  | some v => if v.1 = t then some [x_at m cc ss fs h (pc + n) L (v :: st) E] else none
  | none => none
def x_lda (n i : Nat) : Option (List xS) := match x_find L i with
  | some v => if v.1 = 3 ∨ v.1 = 4 then some [x_at m cc ss fs h (pc + n) L (v :: st) E] else none
  | none => none
def x_st (n i : Nat) : Option (List xS) := match st with
  | v :: r => if v.1 = 0 ∧ i < x_maxL P m then some [x_at m cc ss fs h (pc + n) (x_put1 L i v) r E] else none
  | [] => none
def x_stL (n i : Nat) : Option (List xS) := match st with
  | v :: r => if v.1 = 1 ∧ i + 1 < x_maxL P m then some [x_at m cc ss fs h (pc + n) (x_put2 L i v) r E] else none
  | [] => none
def x_stA (n i : Nat) : Option (List xS) := match st with
  | v :: r => if v.1 = 3 ∧ i < x_maxL P m then some [x_at m cc ss fs h (pc + n) (x_put1 L i v) r E] else none
  | [] => none
def x_op2 (f : xE → xV → xV → xV × xE) : Option (List xS) := match st with
  | w :: v :: r => if v.1 = 0 ∧ w.1 = 0 then some [x_at m cc ss fs h (pc + 1) L ((f E v w).1 :: r) (f E v w).2] else none
  | _ => none
def x_opL (f : xE → xV → xV → xV × xE) : Option (List xS) := match st with
  | w :: v :: r => if v.1 = 1 ∧ w.1 = 1 then some [x_at m cc ss fs h (pc + 1) L ((f E v w).1 :: r) (f E v w).2] else none
  | _ => none
def x_opS (f : xE → xV → xV → xV × xE) : Option (List xS) := match st with
  | w :: v :: r => if v.1 = 1 ∧ w.1 = 0 then some [x_at m cc ss fs h (pc + 1) L ((f E v w).1 :: r) (f E v w).2] else none
  | _ => none
/-- a divisor that isn't 0 -/
def x_nz (w : xV) : Bool := decide (0 < (x_iv E w).1) || decide ((x_iv E w).2 < 0)
def x_div (f : xE → xV → xV → xV × xE) : Option (List xS) := match st with
  | w :: v :: r => if v.1 = 0 ∧ w.1 = 0 ∧ x_nz E w = true then some [x_at m cc ss fs h (pc + 1) L ((f E v w).1 :: r) (f E v w).2] else none
  | _ => none
def x_divL (f : xE → xV → xV → xV × xE) : Option (List xS) := match st with
  | w :: v :: r => if v.1 = 1 ∧ w.1 = 1 ∧ x_nz E w = true then some [x_at m cc ss fs h (pc + 1) L ((f E v w).1 :: r) (f E v w).2] else none
  | _ => none
def x_br (c : ClassFile.Cond) (v w : xV) (r : List xV) (off : Int) : Option (List xS) :=
  if v.1 = 0 ∧ w.1 = 0 ∧ 0 ≤ (pc : Int) + off then
    some ((x_alts E c v w).map (fun E' => x_at m cc ss fs h ((pc : Int) + off).toNat L r E') ++ (x_alts E (x_neg c) v w).map (fun E' => x_at m cc ss fs h (pc + 3) L r E'))
  else none
def x_swI (v : xV) (r : List xV) (lo : Int) : Nat → List Int → List xS
  | _, [] => []
  | k, off :: l => (if x_can .eq (x_iv E v) (lo + k, lo + k) = true then [x_at m cc ss fs h ((pc : Int) + off).toNat L r (x_cap E v (lo + k) (lo + k))] else []) ++ x_swI v r lo (k + 1) l
def x_sw (v : xV) (r : List xV) (dflt lo hi : Int) (offs : List Int) : Option (List xS) :=
  if v.1 = 0 ∧ 0 ≤ (pc : Int) + dflt ∧ offs.all (fun o => decide (0 ≤ (pc : Int) + o)) = true ∧ (offs.length : Int) = hi - lo + 1 then
    some ((if (x_iv E v).1 < lo then [x_at m cc ss fs h ((pc : Int) + dflt).toNat L r (x_cap E v (-x_M) (lo - 1))] else []) ++
      (if hi < (x_iv E v).2 then [x_at m cc ss fs h ((pc : Int) + dflt).toNat L r (x_cap E v (hi + 1) x_M)] else []) ++ x_swI m pc L cc ss fs h E v r lo 0 offs)
  else none
def x_getf (idx : Nat) : Option (List xS) := match st with
  | (3, _, k) :: r => match x_pool P m idx, h[k.toNat]? with
    | (1, ci, f), some (.inr (ci', vs)) => if ci' = ci then match vs[f.toNat]? with
      | some v => some [x_at m cc ss fs h (pc + 3) L (v :: r) E]
      | none => none else none
    | _, _ => none
  | _ => none
def x_putf (idx : Nat) : Option (List xS) := match st with
  | v :: (3, _, k) :: r => match x_pool P m idx, h[k.toNat]? with
    | (1, ci, f), some (.inr (ci', vs)) => if ci' = ci ∧ f.toNat < vs.length then match (x_cls P ci)[f.toNat]? with
      | some kd => if x_fit E kd v = true ∧ (kd < 10 ∨ (x_nm P m).name = "<init>" ∧ x_mci P m = ci) then
          some [((m, pc + 3, L, r, cc, ss) :: fs, h.set k.toNat (.inr (ci, vs.set f.toNat v)), E)] else none
      | none => none else none
    | _, _ => none
  | _ => none
def x_ald (t ty : Nat) : Option (List xS) := match st with
  | i :: (3, _, k) :: r => match h[k.toNat]? with
    | some (.inl a) => if i.1 = 0 ∧ a.1 = ty then match x_rd t E a i with
      | some q => some [x_at m cc ss fs h (pc + 1) L (q.1 :: r) q.2]
      | none => none else none
    | _ => none
  | i :: (4, _, _) :: r => if ty = 0 ∧ m = 0 ∧ i.1 = 0 ∧ i.2.1 = none ∧ 0 ≤ i.2.2 ∧ i.2.2 < 6 ∧ i.2.2 < (x_iv E (0, some 6, 0)).1 then some [x_at m cc ss fs h (pc + 1) L ((0, some i.2.2.toNat, 0) :: r) E] else none
  | _ => none
def x_ast (t ty : Nat) : Option (List xS) := match st with
  | v :: i :: (3, _, k) :: r => match h[k.toNat]? with
    | some (.inl a) => if i.1 = 0 ∧ v.1 = t ∧ a.1 = ty ∧ (ty = 2 → x_fit E 3 v = true) then match x_wr t E a i v with
      | some b => some [((m, pc + 1, L, r, cc, ss) :: fs, h.set k.toNat (.inl b), E)]
      | none => none else none
    | _ => none
  | _ => none
def x_alen : Option (List xS) := match st with
  | (3, _, k) :: r => match h[k.toNat]? with
    | some (.inl a) => if a.1 < 3 then some [x_at m cc ss fs h (pc + 1) L ((0, none, (Int32.ofNat a.2.1).toInt) :: r) E] else none
    | _ => none
  | (4, _, _) :: r => if m = 0 then some [x_at m cc ss fs h (pc + 1) L ((0, some 6, 0) :: r) E] else none
  | _ => none
def x_newa (ty : Nat) : Option (List xS) := match st with
  | (0, none, n) :: r => if 0 ≤ n ∧ n ≤ 60000000 ∧ cc + 1 ≤ x_mc P m ∧ ss + n.toNat ≤ x_ms P m then
      some [((m, pc + 2, L, (3, none, h.length) :: r, cc + 1, ss + n.toNat) :: fs, h ++ [.inl (ty, n.toNat, 0, 0, [])], E)] else none
  | _ => none
def x_new (idx : Nat) : Option (List xS) := match x_pool P m idx with
  | (9, ci, _) => if cc + 1 ≤ x_mc P m ∧ ss + (x_cls P ci).length ≤ x_ms P m then
      some [((m, pc + 3, L, (3, none, h.length) :: st, cc + 1, ss + (x_cls P ci).length) :: fs, h ++ [.inr (ci, (x_cls P ci).map (fun k => x_dflt (k % 10)))], E)] else none
  | _ => none
/-- a call: method j, its arguments (receiver first), what stays on the stack -/
def x_push (j : Nat) (as rest : List xV) : Option (List xS) :=
  if cc + x_mc P j ≤ x_mc P m ∧ ss + x_ms P j ≤ x_ms P m ∧ fs.length < 40 ∧ x_maxL P j ≤ 60 ∧ (as.map x_cat).sum ≤ x_maxL P j ∧ (rest.map x_cat).sum ≤ 8 then
    some [((j, 0, x_args 0 as, [], 0, 0) :: (m, pc + 3, L, rest, cc + x_mc P j, ss + x_ms P j) :: fs, h, E)]
  else none
def x_cpy (idx : Nat) : Option (List xS) := match st with
  | (0, none, n) :: (0, none, dp) :: (3, _, kd) :: (0, none, sp) :: (3, _, ks) :: r => match h[ks.toNat]?, h[kd.toNat]? with
    | some (.inl (0, n0, lo0, hi0, [])), some (.inl (0, n1, lo1, hi1, [])) =>
      if 0 ≤ n ∧ 0 ≤ dp ∧ 0 ≤ sp ∧ sp + n ≤ n0 ∧ dp + n ≤ n1 ∧ (r.map x_cat).sum ≤ 8 then
        some [((m, pc + 3, L, r, cc, ss) :: fs, h.set kd.toNat (.inl (0, n1, min lo0 lo1, max hi0 hi1, [])), E)] else none
    | _, _ => none
  | _ => none
def x_invV (idx : Nat) : Option (List xS) := match x_pool P m idx with
  | (2, j, n) => match st.drop n.toNat with
    | (3, b, k) :: rest => match h[k.toNat]? with
      | some (.inr (ci, _)) => if ci = x_mci P j ∧ (st.take n.toNat).length = n.toNat then x_push P m pc L cc ss fs h E j ((3, b, k) :: (st.take n.toNat).reverse) rest else none
      | _ => none
    | _ => none
  | _ => none
def x_invI (idx : Nat) : Option (List xS) := match x_pool P m idx with
  | (3, j, n) => match st.drop n.toNat with
    | (3, b, k) :: rest => if (st.take n.toNat).length = n.toNat then x_push P m pc L cc ss fs h E j ((3, b, k) :: (st.take n.toNat).reverse) rest else none
    | _ => none
  | (4, j, n) => match st.drop n.toNat with
    | (3, b, k) :: rest => if (st.take n.toNat).length = n.toNat then x_push P m pc L cc ss fs h E j ((3, b, k) :: (st.take n.toNat).reverse) rest else none
    | _ => none
  | (5, _, _) => match st with
    | (3, _, _) :: r => if (r.map x_cat).sum ≤ 8 then some [x_at m cc ss fs h (pc + 3) L r E] else none
    | _ => none
  | _ => none
/-- Math.min and Math.max -/
def x_mm (f : xE → xV → xV → xV × xE) : Option (List xS) := match st with
  | w :: v :: r => if v.1 = 0 ∧ w.1 = 0 ∧ (r.map x_cat).sum ≤ 8 ∧ cc ≤ x_mc P m ∧ ss ≤ x_ms P m then some [x_at m cc ss fs h (pc + 3) L ((f E v w).1 :: r) (f E v w).2] else none
  | _ => none
def x_invS (idx : Nat) : Option (List xS) := match x_pool P m idx with
  | (6, j, n) => if (st.take n.toNat).length = n.toNat then x_push P m pc L cc ss fs h E j (st.take n.toNat).reverse (st.drop n.toNat) else none
  | (10, _, _) => x_cpy m pc L st cc ss fs h E idx
  | (13, _, _) => x_mm P m pc L st cc ss fs h E x_mn
  | (14, _, _) => x_mm P m pc L st cc ss fs h E x_mx
  | _ => none
/-- the end of a method: its kind (0 nothing, 1 int, 2 boolean, 3 long) -/
def x_ret (t : Nat) : Option (List xS) := match st with
  | [v] => if v.1 = t then match fs with
      | [] => if t = 0 ∧ m = 0 ∧ v.2.1 = none ∧ v.2.2 = 1 ∧ cc ≤ x_mc P m ∧ ss ≤ x_ms P m then some [] else none
      | (m', pc', L', st', cc', ss') :: fs' => if cc ≤ x_mc P m ∧ ss ≤ x_ms P m ∧ (t = 0 ∧ x_retk P m = 1 ∨ t = 0 ∧ x_retk P m = 2 ∧ x_fit E 3 v = true ∨ t = 1 ∧ x_retk P m = 3) then some [((m', pc', L', v :: st', cc', ss') :: fs', h, E)] else none
      else none
  | _ => none
def x_retV : Option (List xS) := match st, fs with
  | [], (m', pc', L', st', cc', ss') :: fs' => if cc ≤ x_mc P m ∧ ss ≤ x_ms P m ∧ x_retk P m = 0 then some [((m', pc', L', st', cc', ss') :: fs', h, E)] else none
  | _, _ => none
def x_if (b : Bool) (r : Option (List xS)) : Option (List xS) := cond b r none
def x_push1 (n : Nat) (v : xV) : Option (List xS) := some [x_at m cc ss fs h (pc + n) L (v :: st) E]
def x_ins (i : Instr) (len : Nat) : Option (List xS) := match i with
  | .iconst n => x_if (len == 1) (x_push1 m pc L st cc ss fs h E 1 (0, none, (Int32.ofInt n).toInt))
  | .bipush n => x_if (len == 2) (x_push1 m pc L st cc ss fs h E 2 (0, none, (Int8.ofInt n).toInt32.toInt))
  | .sipush n => x_if (len == 3) (x_push1 m pc L st cc ss fs h E 3 (0, none, (Int16.ofInt n).toInt32.toInt))
  | .lconst k => x_if (len == 1) (x_push1 m pc L st cc ss fs h E 1 (1, none, (Int64.ofNat (k : Nat)).toInt))
  | .ldc idx => x_if (len == 2) (match x_pool P m idx with
    | (7, _, c) => x_push1 m pc L st cc ss fs h E 2 (0, none, c)
    | _ => none)
  | .ldc_w idx => x_if (len == 3) (match x_pool P m idx with
    | (7, _, c) => x_push1 m pc L st cc ss fs h E 3 (0, none, c)
    | _ => none)
  | .ldc2_w idx => x_if (len == 3) (match x_pool P m idx with
    | (8, _, c) => x_push1 m pc L st cc ss fs h E 3 (1, none, c)
    | _ => none)
  | .iload i => x_if (len == 2) (x_ld m pc L st cc ss fs h E 2 0 i)
  | .iload_n i => x_if (len == 1) (x_ld m pc L st cc ss fs h E 1 0 (i : Nat))
  | .lload i => x_if (len == 2) (x_ld m pc L st cc ss fs h E 2 1 i)
  | .lload_n i => x_if (len == 1) (x_ld m pc L st cc ss fs h E 1 1 (i : Nat))
  | .aload i => x_if (len == 2) (x_lda m pc L st cc ss fs h E 2 i)
  | .aload_n i => x_if (len == 1) (x_lda m pc L st cc ss fs h E 1 (i : Nat))
  | .istore i => x_if (len == 2) (x_st P m pc L st cc ss fs h E 2 i)
  | .istore_n i => x_if (len == 1) (x_st P m pc L st cc ss fs h E 1 (i : Nat))
  | .lstore i => x_if (len == 2) (x_stL P m pc L st cc ss fs h E 2 i)
  | .lstore_n i => x_if (len == 1) (x_stL P m pc L st cc ss fs h E 1 (i : Nat))
  | .astore i => x_if (len == 2) (x_stA P m pc L st cc ss fs h E 2 i)
  | .astore_n i => x_if (len == 1) (x_stA P m pc L st cc ss fs h E 1 (i : Nat))
  | .iinc i n => x_if (len == 3) (match x_find L i with
    | some v => if v.1 = 0 ∧ i < x_maxL P m then some [x_at m cc ss fs h (pc + 3) (x_put1 L i (x_addc E v (Int32.ofInt n).toInt).1) st (x_addc E v (Int32.ofInt n).toInt).2] else none
    | none => none)
  | .iadd => x_if (len == 1) (x_op2 m pc L st cc ss fs h E x_add)
  | .isub => x_if (len == 1) (x_op2 m pc L st cc ss fs h E x_sub)
  | .imul => x_if (len == 1) (x_op2 m pc L st cc ss fs h E (x_bin (· * ·)))
  | .iand => x_if (len == 1) (x_op2 m pc L st cc ss fs h E (x_bin (· &&& ·)))
  | .ior => x_if (len == 1) (x_op2 m pc L st cc ss fs h E (x_bin (· ||| ·)))
  | .ixor => x_if (len == 1) (x_op2 m pc L st cc ss fs h E (x_bin (· ^^^ ·)))
  | .ishl => x_if (len == 1) (x_op2 m pc L st cc ss fs h E (x_bin (fun x y => x <<< (y &&& 31))))
  | .ishr => x_if (len == 1) (x_op2 m pc L st cc ss fs h E (x_bin (fun x y => x >>> (y &&& 31))))
  | .iushr => x_if (len == 1) (x_op2 m pc L st cc ss fs h E (x_bin (fun x y => (x.toUInt32 >>> (y.toUInt32 &&& Int32.toUInt32 31)).toInt32)))
  | .idiv => x_if (len == 1) (x_div m pc L st cc ss fs h E (x_bin (· / ·)))
  | .irem => x_if (len == 1) (x_div m pc L st cc ss fs h E (x_bin (fun x y => x - x / y * y)))
  | .ladd => x_if (len == 1) (x_opL m pc L st cc ss fs h E (x_binL (· + ·)))
  | .lsub => x_if (len == 1) (x_opL m pc L st cc ss fs h E (x_binL (· - ·)))
  | .lmul => x_if (len == 1) (x_opL m pc L st cc ss fs h E (x_binL (· * ·)))
  | .land => x_if (len == 1) (x_opL m pc L st cc ss fs h E (x_binL (· &&& ·)))
  | .lor => x_if (len == 1) (x_opL m pc L st cc ss fs h E (x_binL (· ||| ·)))
  | .ldiv => x_if (len == 1) (x_divL m pc L st cc ss fs h E (x_binL (· / ·)))
  | .lrem => x_if (len == 1) (x_divL m pc L st cc ss fs h E (x_binL (fun x y => x - x / y * y)))
  | .lcmp => x_if (len == 1) (x_opL m pc L st cc ss fs h E x_cmpL)
  | .lshl => x_if (len == 1) (x_opS m pc L st cc ss fs h E (x_shL (fun x y => x <<< (y.toInt64 &&& 63))))
  | .lshr => x_if (len == 1) (x_opS m pc L st cc ss fs h E (x_shL (fun x y => x >>> (y.toInt64 &&& 63))))
  | .i2l => x_if (len == 1) (match st with
    | v :: r => if v.1 = 0 then some [x_at m cc ss fs h (pc + 1) L ((1, v.2) :: r) E] else none
    | [] => none)
  | .l2i => x_if (len == 1) (match st with
    | v :: r => if v.1 = 1 then some [x_at m cc ss fs h (pc + 1) L ((x_l2i E v).1 :: r) (x_l2i E v).2] else none
    | [] => none)
  | .dup => x_if (len == 1) (match st with
    | v :: r => if x_cat v = 1 then some [x_at m cc ss fs h (pc + 1) L (v :: v :: r) E] else none
    | [] => none)
  | .pop => x_if (len == 1) (match st with
    | v :: r => if x_cat v = 1 then some [x_at m cc ss fs h (pc + 1) L r E] else none
    | [] => none)
  | .dup2 => x_if (len == 1) (match st with
    | v :: w :: r => if x_cat v = 1 ∧ x_cat w = 1 then some [x_at m cc ss fs h (pc + 1) L (v :: w :: v :: w :: r) E] else none
    | _ => none)
  | .ifCond c off => x_if (len == 3) (match st with
    | v :: r => x_br m pc L cc ss fs h E c v (0, none, 0) r off
    | [] => none)
  | .if_icmp c off => x_if (len == 3) (match st with
    | w :: v :: r => x_br m pc L cc ss fs h E c v w r off
    | _ => none)
  | .goto off => x_if (len == 3) (if 0 ≤ (pc : Int) + off then some [x_at m cc ss fs h ((pc : Int) + off).toNat L st E] else none)
  | .tableswitch dflt lo hi offs => match st with
    | v :: r => x_sw m pc L cc ss fs h E v r dflt lo hi offs.toList
    | [] => none
  | .getfield idx => x_if (len == 3) (x_getf P m pc L st cc ss fs h E idx)
  | .putfield idx => x_if (len == 3) (x_putf P m pc L st cc ss fs h E idx)
  | .iaload => x_if (len == 1) (x_ald m pc L st cc ss fs h E 0 0)
  | .laload => x_if (len == 1) (x_ald m pc L st cc ss fs h E 1 1)
  | .baload => x_if (len == 1) (x_ald m pc L st cc ss fs h E 0 2)
  | .iastore => x_if (len == 1) (x_ast m pc L st cc ss fs h E 0 0)
  | .lastore => x_if (len == 1) (x_ast m pc L st cc ss fs h E 1 1)
  | .bastore => x_if (len == 1) (x_ast m pc L st cc ss fs h E 0 2)
  | .arraylength => x_if (len == 1) (x_alen m pc L st cc ss fs h E)
  | .newarray t => x_if (len == 2) (match t with
    | .int => x_newa P m pc L st cc ss fs h E 0
    | .long => x_newa P m pc L st cc ss fs h E 1
    | .boolean => x_newa P m pc L st cc ss fs h E 2
    | _ => none)
  | .new idx => x_if (len == 3) (x_new P m pc L st cc ss fs h E idx)
  | .invokevirtual idx => x_if (len == 3) (x_invV P m pc L st cc ss fs h E idx)
  | .invokespecial idx => x_if (len == 3) (x_invI P m pc L st cc ss fs h E idx)
  | .invokestatic idx => x_if (len == 3) (x_invS P m pc L st cc ss fs h E idx)
  | .ireturn => x_if (len == 1) (x_ret P m st cc ss fs h E 0)
  | .lreturn => x_if (len == 1) (x_ret P m st cc ss fs h E 1)
  | .return_ => x_if (len == 1) (x_retV P m st cc ss fs h E)
  | _ => none
end XSTEP
def x_step (P : xP) (S : xS) : Option (List xS) := match S with
  | ([], _, _) => none
  | ((m, pc, L, st, cc, ss) :: fs, h, E) => match x_code P m pc with
    | some (i, len) => x_ins P m pc L st cc ss fs h E i len
    | none => none
def x_run (P : xP) : Nat → xS → Bool
  | 0, _ => false
  | n + 1, S => match x_step P S with
    | some [S'] => x_run P n S'
    | some l => l.all (x_run P n)
    | none => false
theorem x_run_ok {P : xP} {n : Nat} {S : xS} (h : x_run P (n + 1) S = true) : ∃ l, x_step P S = some l ∧ ∀ S' ∈ l, x_run P n S' = true := by
  unfold x_run at h
  split at h
  next S' e => exact ⟨[S'], e, fun q hq => by rw [List.mem_singleton.mp hq]; exact h⟩
  next l _ e => exact ⟨l, e, fun q hq => List.all_eq_true.mp h q hq⟩
  next => cases h
end
section
/-! the operations on abstract values are right -/
theorem x_val.int {ρ : List Int} {ad : List Nat} {sc : Nat} {v : xV} {x : Value} (ht : v.1 = 0) (h : x_val ρ ad sc v x) : ∃ n : Int32, x = .int n ∧ x_ev ρ v.2.1 v.2.2 n.toInt := by
  obtain ⟨t, b, c⟩ := v
  cases ht
  exact h
theorem x_val.long {ρ : List Int} {ad : List Nat} {sc : Nat} {v : xV} {x : Value} (ht : v.1 = 1) (h : x_val ρ ad sc v x) : ∃ n : Int64, x = .long n ∧ x_ev ρ v.2.1 v.2.2 n.toInt := by
  obtain ⟨t, b, c⟩ := v
  cases ht
  exact h
theorem x_val.ref {ρ : List Int} {ad : List Nat} {sc : Nat} {v : xV} {x : Value} (ht : v.1 = 3) (h : x_val ρ ad sc v x) : ∃ a, x = .ref a ∧ ad[v.2.2.toNat]? = some a := by
  obtain ⟨t, b, c⟩ := v
  cases ht
  exact h
theorem x_val.mkI {ρ : List Int} {ad : List Nat} {sc : Nat} {v : xV} {n : Int32} (ht : v.1 = 0) (h : x_ev ρ v.2.1 v.2.2 n.toInt) : x_val ρ ad sc v (.int n) := by
  obtain ⟨t, b, c⟩ := v
  cases ht
  exact ⟨n, rfl, h⟩
theorem x_val.mkL {ρ : List Int} {ad : List Nat} {sc : Nat} {v : xV} {n : Int64} (ht : v.1 = 1) (h : x_ev ρ v.2.1 v.2.2 n.toInt) : x_val ρ ad sc v (.long n) := by
  obtain ⟨t, b, c⟩ := v
  cases ht
  exact ⟨n, rfl, h⟩
/-- what an operation gives: perhaps with one more symbol -/
def x_resI (ρ : List Int) (q : xV × xE) (r : Int32) : Prop := q.1.1 = 0 ∧ ∃ ρ', x_ext ρ ρ' ∧ x_env ρ' q.2 ∧ x_ev ρ' q.1.2.1 q.1.2.2 r.toInt
def x_resL (ρ : List Int) (q : xV × xE) (r : Int64) : Prop := q.1.1 = 1 ∧ ∃ ρ', x_ext ρ ρ' ∧ x_env ρ' q.2 ∧ x_ev ρ' q.1.2.1 q.1.2.2 r.toInt
theorem x_freshI {ρ : List Int} {E : xE} (h : x_env ρ E) {r : Int32} {lo hi : Int} (h1 : lo ≤ r.toInt) (h2 : r.toInt ≤ hi) : x_resI ρ (x_fresh 0 E lo hi) r :=
  ⟨rfl, ρ ++ [r.toInt], x_ext.app _ _, h.new h1 h2, x_ev.new h _⟩
theorem x_freshL {ρ : List Int} {E : xE} (h : x_env ρ E) {r : Int64} {lo hi : Int} (h1 : lo ≤ r.toInt) (h2 : r.toInt ≤ hi) : x_resL ρ (x_fresh 1 E lo hi) r :=
  ⟨rfl, ρ ++ [r.toInt], x_ext.app _ _, h.new h1 h2, x_ev.new h _⟩
theorem x_top32_ok {ρ : List Int} {E : xE} (h : x_env ρ E) (r : Int32) : x_resI ρ (x_top32 E) r := x_freshI h (x_i32 r).1 (x_i32 r).2
theorem x_top64_ok {ρ : List Int} {E : xE} (h : x_env ρ E) (r : Int64) : x_resL ρ (x_top64 E) r := x_freshL h (x_i64 r).1 (x_i64 r).2
theorem x_keepI {ρ : List Int} {E : xE} (h : x_env ρ E) {b : Option Nat} {c : Int} {r : Int32} (g : x_ev ρ b c r.toInt) : x_resI ρ ((0, b, c), E) r := ⟨rfl, ρ, x_ext.rf _, h, g⟩
theorem x_keepL {ρ : List Int} {E : xE} (h : x_env ρ E) {b : Option Nat} {c : Int} {r : Int64} (g : x_ev ρ b c r.toInt) : x_resL ρ ((1, b, c), E) r := ⟨rfl, ρ, x_ext.rf _, h, g⟩
theorem x_of32 {a : Int32} {c : Int} (h : a.toInt = c) : Int32.ofInt c = a := by rw [← h]; exact Int32.ofInt_toInt a
theorem x_of64 {a : Int64} {c : Int} (h : a.toInt = c) : Int64.ofInt c = a := by rw [← h]; exact Int64.ofInt_toInt a
theorem x_bin_ok (op : Int32 → Int32 → Int32) {ρ : List Int} {E : xE} (h : x_env ρ E) {v w : xV} {a b : Int32} (hv : x_ev ρ v.2.1 v.2.2 a.toInt) (hw : x_ev ρ w.2.1 w.2.2 b.toInt) : x_resI ρ (x_bin op E v w) (op a b) := by
  obtain ⟨t, bv, cv⟩ := v
  obtain ⟨u, bw, cw⟩ := w
  cases bv with
  | none =>
    cases bw with
    | none =>
      have e1 : Int32.ofInt cv = a := x_of32 hv
      have e2 : Int32.ofInt cw = b := x_of32 hw
      refine x_keepI h ?_
      show _ = _
      rw [e1, e2]
    | some j => exact x_top32_ok h _
  | some i => exact x_top32_ok h _
theorem x_binL_ok (op : Int64 → Int64 → Int64) {ρ : List Int} {E : xE} (h : x_env ρ E) {v w : xV} {a b : Int64} (hv : x_ev ρ v.2.1 v.2.2 a.toInt) (hw : x_ev ρ w.2.1 w.2.2 b.toInt) : x_resL ρ (x_binL op E v w) (op a b) := by
  obtain ⟨t, bv, cv⟩ := v
  obtain ⟨u, bw, cw⟩ := w
  cases bv with
  | none =>
    cases bw with
    | none =>
      have e1 : Int64.ofInt cv = a := x_of64 hv
      have e2 : Int64.ofInt cw = b := x_of64 hw
      refine x_keepL h ?_
      show _ = _
      rw [e1, e2]
    | some j => exact x_top64_ok h _
  | some i => exact x_top64_ok h _
theorem x_shL_ok (op : Int64 → Int32 → Int64) {ρ : List Int} {E : xE} (h : x_env ρ E) {v w : xV} {a : Int64} {b : Int32} (hv : x_ev ρ v.2.1 v.2.2 a.toInt) (hw : x_ev ρ w.2.1 w.2.2 b.toInt) : x_resL ρ (x_shL op E v w) (op a b) := by
  obtain ⟨t, bv, cv⟩ := v
  obtain ⟨u, bw, cw⟩ := w
  cases bv with
  | none =>
    cases bw with
    | none =>
      have e1 : Int64.ofInt cv = a := x_of64 hv
      have e2 : Int32.ofInt cw = b := x_of32 hw
      refine x_keepL h ?_
      show _ = _
      rw [e1, e2]
    | some j => exact x_top64_ok h _
  | some i => exact x_top64_ok h _
theorem x_cmpL_ok {ρ : List Int} {E : xE} (h : x_env ρ E) {v w : xV} {a b : Int64} (hv : x_ev ρ v.2.1 v.2.2 a.toInt) (hw : x_ev ρ w.2.1 w.2.2 b.toInt) : x_resI ρ (x_cmpL E v w) (lg_cmp a b) := by
  obtain ⟨t, bv, cv⟩ := v
  obtain ⟨u, bw, cw⟩ := w
  cases bv with
  | none =>
    cases bw with
    | none =>
      have e1 : Int64.ofInt cv = a := x_of64 hv
      have e2 : Int64.ofInt cw = b := x_of64 hw
      refine x_keepI h ?_
      show _ = _
      rw [e1, e2]
    | some j => exact x_top32_ok h _
  | some i => exact x_top32_ok h _
theorem x_in32_ok {lo hi : Int} (h : x_in32 lo hi = true) : -2147483648 ≤ lo ∧ hi ≤ 2147483647 := by
  simpa [x_in32, Bool.and_eq_true, decide_eq_true_eq] using h
theorem x_bm {x : Int} (h1 : -2147483648 ≤ x) (h2 : x ≤ 2147483647) : x.bmod (2 ^ 32) = x := Int.bmod_eq_of_le (by omega) (by omega)
theorem x_addc_ok {ρ : List Int} {E : xE} (h : x_env ρ E) {v : xV} {a b : Int32} (hv : x_ev ρ v.2.1 v.2.2 a.toInt) : x_resI ρ (x_addc E v b.toInt) (a + b) := by
  obtain ⟨t, bv, cv⟩ := v
  cases bv with
  | none =>
    have e1 : Int32.ofInt cv = a := x_of32 hv
    have e2 : Int32.ofInt b.toInt = b := x_of32 rfl
    refine x_keepI h ?_
    show _ = _
    rw [e1, e2]
  | some i =>
    unfold x_addc
    dsimp only
    split
    next hr =>
      have hb := x_in32_ok hr
      have hi := x_iv_ok h (v := (t, some i, cv)) hv
      refine x_keepI h ?_
      obtain ⟨q, g1, g2⟩ := hv
      refine ⟨q, g1, ?_⟩
      rw [Int32.toInt_add, x_bm (by omega) (by omega)]
      have g2 : a.toInt = q + cv := g2
      omega
    next => exact x_top32_ok h _
theorem x_subc_ok {ρ : List Int} {E : xE} (h : x_env ρ E) {v : xV} {a b : Int32} (hv : x_ev ρ v.2.1 v.2.2 a.toInt) : x_resI ρ (x_subc E v b.toInt) (a - b) := by
  obtain ⟨t, bv, cv⟩ := v
  cases bv with
  | none =>
    have e1 : Int32.ofInt cv = a := x_of32 hv
    have e2 : Int32.ofInt b.toInt = b := x_of32 rfl
    refine x_keepI h ?_
    show _ = _
    rw [e1, e2]
  | some i =>
    unfold x_subc
    dsimp only
    split
    next hr =>
      have hb := x_in32_ok hr
      have hi := x_iv_ok h (v := (t, some i, cv)) hv
      refine x_keepI h ?_
      obtain ⟨q, g1, g2⟩ := hv
      refine ⟨q, g1, ?_⟩
      rw [Int32.toInt_sub, x_bm (by omega) (by omega)]
      have g2 : a.toInt = q + cv := g2
      omega
    next => exact x_top32_ok h _
theorem x_add_ok {ρ : List Int} {E : xE} (h : x_env ρ E) {v w : xV} {a b : Int32} (hv : x_ev ρ v.2.1 v.2.2 a.toInt) (hw : x_ev ρ w.2.1 w.2.2 b.toInt) : x_resI ρ (x_add E v w) (a + b) := by
  have h1 := x_iv_ok h hv
  have h2 := x_iv_ok h hw
  obtain ⟨t, bv, cv⟩ := v
  obtain ⟨u, bw, cw⟩ := w
  cases bw with
  | none =>
    have hw : b.toInt = cw := hw
    subst hw
    exact x_addc_ok h hv
  | some j =>
    cases bv with
    | none =>
      have hv : a.toInt = cv := hv
      subst hv
      rw [Int32.add_comm]
      exact x_addc_ok h hw
    | some i =>
      unfold x_add
      dsimp only
      split
      next hr =>
        have hb := x_in32_ok hr
        have e : (a + b).toInt = a.toInt + b.toInt := by rw [Int32.toInt_add, x_bm (by omega) (by omega)]
        exact x_freshI h (by omega) (by omega)
      next => exact x_top32_ok h _
theorem x_sub_ok {ρ : List Int} {E : xE} (h : x_env ρ E) {v w : xV} {a b : Int32} (hv : x_ev ρ v.2.1 v.2.2 a.toInt) (hw : x_ev ρ w.2.1 w.2.2 b.toInt) : x_resI ρ (x_sub E v w) (a - b) := by
  have h1 := x_iv_ok h hv
  have h2 := x_iv_ok h hw
  obtain ⟨t, bv, cv⟩ := v
  obtain ⟨u, bw, cw⟩ := w
  cases bw with
  | none =>
    have hw : b.toInt = cw := hw
    subst hw
    exact x_subc_ok h hv
  | some j =>
    unfold x_sub
    dsimp only
    split
    next hr =>
      have hb := x_in32_ok hr
      have e : (a - b).toInt = a.toInt - b.toInt := by rw [Int32.toInt_sub, x_bm (by omega) (by omega)]
      exact x_freshI h (by omega) (by omega)
    next => exact x_top32_ok h _
theorem x_l2i_ok {ρ : List Int} {E : xE} (h : x_env ρ E) {v : xV} {a : Int64} (hv : x_ev ρ v.2.1 v.2.2 a.toInt) : x_resI ρ (x_l2i E v) a.toInt32 := by
  obtain ⟨t, bv, cv⟩ := v
  cases bv with
  | none =>
    have e1 : Int64.ofInt cv = a := x_of64 hv
    refine x_keepI h ?_
    show _ = _
    rw [e1]
  | some i =>
    unfold x_l2i
    dsimp only
    split
    next hr =>
      have hb := x_in32_ok hr
      have hi := x_iv_ok h (v := (t, some i, cv)) hv
      refine x_keepI h ?_
      rw [Int64.toInt_toInt32, x_bm (by omega) (by omega)]
      exact hv
    next => exact x_top32_ok h _
theorem x_i2l_ok {ρ : List Int} {v : xV} {a : Int32} (hv : x_ev ρ v.2.1 v.2.2 a.toInt) : x_ev ρ v.2.1 v.2.2 a.toInt64.toInt := by
  rw [Int32.toInt_toInt64]
  exact hv
theorem x_mn_ok {ρ : List Int} {E : xE} (h : x_env ρ E) {v w : xV} {a b : Int32} (hv : x_ev ρ v.2.1 v.2.2 a.toInt) (hw : x_ev ρ w.2.1 w.2.2 b.toInt) : x_resI ρ (x_mn E v w) (if b < a then b else a) := by
  have h1 := x_iv_ok h hv
  have h2 := x_iv_ok h hw
  have e : (if b < a then b else a).toInt = min a.toInt b.toInt := by
    split
    next q => have := Int32.lt_iff_toInt_lt.mp q; omega
    next q => have : ¬ b.toInt < a.toInt := fun z => q (Int32.lt_iff_toInt_lt.mpr z); omega
  obtain ⟨t, bv, cv⟩ := v
  obtain ⟨u, bw, cw⟩ := w
  cases bv with
  | none =>
    cases bw with
    | none =>
      have hv : a.toInt = cv := hv
      have hw : b.toInt = cw := hw
      refine x_keepI h ?_
      show _ = min cv cw
      rw [e, hv, hw]
    | some j => exact x_freshI h (by omega) (by omega)
  | some i => exact x_freshI h (by omega) (by omega)
theorem x_mx_ok {ρ : List Int} {E : xE} (h : x_env ρ E) {v w : xV} {a b : Int32} (hv : x_ev ρ v.2.1 v.2.2 a.toInt) (hw : x_ev ρ w.2.1 w.2.2 b.toInt) : x_resI ρ (x_mx E v w) (if a < b then b else a) := by
  have h1 := x_iv_ok h hv
  have h2 := x_iv_ok h hw
  have e : (if a < b then b else a).toInt = max a.toInt b.toInt := by
    split
    next q => have := Int32.lt_iff_toInt_lt.mp q; omega
    next q => have : ¬ a.toInt < b.toInt := fun z => q (Int32.lt_iff_toInt_lt.mpr z); omega
  obtain ⟨t, bv, cv⟩ := v
  obtain ⟨u, bw, cw⟩ := w
  cases bv with
  | none =>
    cases bw with
    | none =>
      have hv : a.toInt = cv := hv
      have hw : b.toInt = cw := hw
      refine x_keepI h ?_
      show _ = max cv cw
      rw [e, hv, hw]
    | some j => exact x_freshI h (by omega) (by omega)
  | some i => exact x_freshI h (by omega) (by omega)
theorem x_neg_ok {c : ClassFile.Cond} {x y : Int} (h : ¬ x_holds c x y) : x_holds (x_neg c) x y := by
  cases c <;> simp only [x_neg, x_holds] at h ⊢ <;> first | exact h | exact Decidable.of_not_not h
theorem x_alt_ok {ρ : List Int} {E : xE} (h : x_env ρ E) {c : ClassFile.Cond} {v w : xV} {a b : Int} (hv : x_ev ρ v.2.1 v.2.2 a) (hw : x_ev ρ w.2.1 w.2.2 b) (ha : -x_M ≤ a ∧ a ≤ x_M) (hb : -x_M ≤ b ∧ b ≤ x_M) (hc : c ≠ .ne) (hh : x_holds c a b) : ∃ E' ∈ x_alt E c v w, x_env ρ E' := by
  have h1 := x_iv_ok h hv
  have h2 := x_iv_ok h hw
  have hcan : x_can c (x_iv E v) (x_iv E w) = true := by
    cases c <;> simp only [x_can, x_holds, Bool.and_eq_true, decide_eq_true_eq] at hh ⊢ <;> omega
  refine ⟨x_asm E c v w, by unfold x_alt; rw [if_pos hcan]; exact List.mem_singleton.mpr rfl, ?_⟩
  cases c <;> simp only [x_asm, x_holds] at hh ⊢
  · exact x_cap_ok (x_cap_ok h hv (by omega) (by omega)) hw (by omega) (by omega)
  · exact h
  · exact x_cap_ok (x_cap_ok h hv (by omega) (by omega)) hw (by omega) (by omega)
  · exact x_cap_ok (x_cap_ok h hv (by omega) (by omega)) hw (by omega) (by omega)
  · exact x_cap_ok (x_cap_ok h hv (by omega) (by omega)) hw (by omega) (by omega)
  · exact x_cap_ok (x_cap_ok h hv (by omega) (by omega)) hw (by omega) (by omega)
theorem x_ev_inj {ρ : List Int} {q : Option Nat × Int} {a b : Int} (h : x_ev ρ q.1 q.2 a) (g : x_ev ρ q.1 q.2 b) : a = b := by
  obtain ⟨o, c⟩ := q
  cases o with
  | none => exact Eq.trans h (Eq.symm g)
  | some i =>
    obtain ⟨x, h1, h2⟩ := h
    obtain ⟨y, g1, g2⟩ := g
    cases h1.symm.trans g1
    exact h2.trans g2.symm
theorem x_alts_ok {ρ : List Int} {E : xE} (h : x_env ρ E) {c : ClassFile.Cond} {v w : xV} {a b : Int} (hv : x_ev ρ v.2.1 v.2.2 a) (hw : x_ev ρ w.2.1 w.2.2 b) (ha : -x_M ≤ a ∧ a ≤ x_M) (hb : -x_M ≤ b ∧ b ≤ x_M) (hh : x_holds c a b) : ∃ E' ∈ x_alts E c v w, x_env ρ E' := by
  by_cases hc : c = .ne
  · subst hc
    have hne : ¬ v.2 = w.2 := fun e => hh (x_ev_inj (q := v.2) hv (by rw [e]; exact hw))
    show ∃ E' ∈ (if v.2 = w.2 then [] else x_alt E .lt v w ++ x_alt E .gt v w), x_env ρ E'
    rw [if_neg hne]
    have hh : ¬ a = b := hh
    rcases Int.lt_or_gt_of_ne hh with g | g
    · obtain ⟨E', m, k⟩ := x_alt_ok h (c := .lt) hv hw ha hb (by decide) g
      exact ⟨E', List.mem_append_left _ m, k⟩
    · obtain ⟨E', m, k⟩ := x_alt_ok h (c := .gt) hv hw ha hb (by decide) g
      exact ⟨E', List.mem_append_right _ m, k⟩
  · obtain ⟨E', m, k⟩ := x_alt_ok h hv hw ha hb hc hh
    refine ⟨E', ?_, k⟩
    cases c <;> first | exact m | exact absurd rfl hc
theorem x_b32 (n : Int32) : -x_M ≤ n.toInt ∧ n.toInt ≤ x_M := by
  have := x_i32 n
  simp only [x_M]
  omega
theorem x_nz_ok {ρ : List Int} {E : xE} (h : x_env ρ E) {w : xV} {b : Int} (hw : x_ev ρ w.2.1 w.2.2 b) (hz : x_nz E w = true) : b ≠ 0 := by
  have h2 := x_iv_ok h hw
  simp only [x_nz, Bool.or_eq_true, decide_eq_true_eq] at hz
  omega
/-- arrays -/
def x_arr (ρ : List Int) (n : Nat) (lo hi : Int) (ov : List (Nat × xV)) (g : Nat → Int) : Prop := ∀ j, j < n → match x_find ov j with
  | some v => x_ev ρ v.2.1 v.2.2 (g j)
  | none => lo ≤ g j ∧ g j ≤ hi
theorem x_arr.mono {ρ ρ' : List Int} {n : Nat} {lo hi : Int} {ov : List (Nat × xV)} {g : Nat → Int} (h : x_ext ρ ρ') (k : x_arr ρ n lo hi ov g) : x_arr ρ' n lo hi ov g := by
  intro j hj
  have := k j hj
  revert this
  cases x_find ov j with
  | none => exact id
  | some v => exact fun q => q.mono h
theorem x_clamp {i : Int32} {n : Nat} (h1 : 0 ≤ i.toInt) (h2 : i.toInt < n) : vp_in i n ∧ i.toNatClampNeg = i.toInt.toNat ∧ i.toInt.toNat < n := by
  refine ⟨vp_in_iff.mpr ⟨h1, h2⟩, ?_, by omega⟩
  rfl
end
section
/-! arrays, cells, heaps -/
theorem x_rdD_okI {ρ : List Int} {E : xE} (h : x_env ρ E) {lo hi : Int} {r : Int32} (h1 : lo ≤ r.toInt) (h2 : r.toInt ≤ hi) : x_resI ρ (x_rdD 0 E lo hi) r := by
  unfold x_rdD
  split
  next e => exact x_keepI h (show r.toInt = lo by omega)
  next => exact x_freshI h h1 h2
theorem x_rdD_okL {ρ : List Int} {E : xE} (h : x_env ρ E) {lo hi : Int} {r : Int64} (h1 : lo ≤ r.toInt) (h2 : r.toInt ≤ hi) : x_resL ρ (x_rdD 1 E lo hi) r := by
  unfold x_rdD
  split
  next e => exact x_keepL h (show r.toInt = lo by omega)
  next => exact x_freshL h h1 h2
theorem x_rd_okI {ρ : List Int} {E : xE} (h : x_env ρ E) {a : xA} {f : Nat → Int32} (ha : x_arr ρ a.2.1 a.2.2.1 a.2.2.2.1 a.2.2.2.2 (fun j => (f j).toInt)) {i : xV} {k : Int32} (hi : x_ev ρ i.2.1 i.2.2 k.toInt) {q : xV × xE} (hq : x_rd 0 E a i = some q) : vp_in k a.2.1 ∧ x_resI ρ q (f k.toNatClampNeg) := by
  have hb := x_iv_ok h hi
  unfold x_rd at hq
  split at hq
  next hr =>
    obtain ⟨c1, c2, c3⟩ := x_clamp (i := k) (n := a.2.1) (by omega) (by omega)
    refine ⟨c1, ?_⟩
    rw [c2]
    have hj := ha _ c3
    obtain ⟨t, bi, ci⟩ := i
    obtain ⟨ty, n, lo, hi', ov⟩ := a
    cases bi with
    | none =>
      have e : k.toInt = ci := hi
      rw [e] at hj ⊢
      simp only at hq hj
      cases hf : x_find ov ci.toNat with
      | none =>
        rw [hf] at hq hj
        cases hq
        exact x_rdD_okI h hj.1 hj.2
      | some v =>
        rw [hf] at hq hj
        cases hq
        exact x_keepI h hj
    | some s =>
      simp only at hq
      cases ov with
      | nil =>
        cases hq
        exact x_rdD_okI h hj.1 hj.2
      | cons _ _ =>
        cases hq
        exact x_top32_ok h _
  next => cases hq
theorem x_rd_okL {ρ : List Int} {E : xE} (h : x_env ρ E) {a : xA} {f : Nat → Int64} (ha : x_arr ρ a.2.1 a.2.2.1 a.2.2.2.1 a.2.2.2.2 (fun j => (f j).toInt)) {i : xV} {k : Int32} (hi : x_ev ρ i.2.1 i.2.2 k.toInt) {q : xV × xE} (hq : x_rd 1 E a i = some q) : vp_in k a.2.1 ∧ x_resL ρ q (f k.toNatClampNeg) := by
  have hb := x_iv_ok h hi
  unfold x_rd at hq
  split at hq
  next hr =>
    obtain ⟨c1, c2, c3⟩ := x_clamp (i := k) (n := a.2.1) (by omega) (by omega)
    refine ⟨c1, ?_⟩
    rw [c2]
    have hj := ha _ c3
    obtain ⟨t, bi, ci⟩ := i
    obtain ⟨ty, n, lo, hi', ov⟩ := a
    cases bi with
    | none =>
      have e : k.toInt = ci := hi
      rw [e] at hj ⊢
      simp only at hq hj
      cases hf : x_find ov ci.toNat with
      | none =>
        rw [hf] at hq hj
        cases hq
        exact x_rdD_okL h hj.1 hj.2
      | some v =>
        rw [hf] at hq hj
        cases hq
        exact x_keepL h hj
    | some s =>
      simp only at hq
      cases ov with
      | nil =>
        cases hq
        exact x_rdD_okL h hj.1 hj.2
      | cons _ _ =>
        cases hq
        exact x_top64_ok h _
  next => cases hq
/-- a place written; g the numbers ahead, g' behind -/
theorem x_wr_ok {ρ : List Int} {E : xE} (h : x_env ρ E) {t : Nat} {a b : xA} {g g' : Nat → Int} (ha : x_arr ρ a.2.1 a.2.2.1 a.2.2.2.1 a.2.2.2.2 g) {i v : xV} {k : Int32} {r : Int} (hi : x_ev ρ i.2.1 i.2.2 k.toInt) (hv : x_ev ρ v.2.1 v.2.2 r)
    (h1 : g' k.toNatClampNeg = r) (h2 : ∀ j, j ≠ k.toNatClampNeg → g' j = g j)
    (hg : ∀ j, j < a.2.1 → if t = 1 then -9223372036854775808 ≤ g' j ∧ g' j ≤ 9223372036854775807 else -2147483648 ≤ g' j ∧ g' j ≤ 2147483647) (hq : x_wr t E a i v = some b) : vp_in k a.2.1 ∧ b.1 = a.1 ∧ b.2.1 = a.2.1 ∧ x_arr ρ b.2.1 b.2.2.1 b.2.2.2.1 b.2.2.2.2 g' := by
  have hb := x_iv_ok h hi
  have hv' := x_iv_ok h hv
  unfold x_wr at hq
  split at hq
  next hr =>
    obtain ⟨c1, c2, c3⟩ := x_clamp (i := k) (n := a.2.1) (by omega) (by omega)
    refine ⟨c1, ?_⟩
    rw [c2] at h1 h2
    obtain ⟨tv, bi, ci⟩ := i
    obtain ⟨ty, n, lo, hi', ov⟩ := a
    cases bi with
    | none =>
      have e : k.toInt = ci := hi
      rw [e] at h1 h2 c3
      simp only at hq
      split at hq
      next hc =>
        cases hq
        refine ⟨rfl, rfl, fun j hj => ?_⟩
        by_cases hjk : j = ci.toNat
        · subst hjk
          show match x_find ov ci.toNat with
            | some v => x_ev ρ v.2.1 v.2.2 (g' ci.toNat)
            | none => lo ≤ g' ci.toNat ∧ g' ci.toNat ≤ hi'
          have e1 : x_find ov ci.toNat = none := hc.2.2.2
          rw [e1, h1]
          obtain ⟨tw, bw, cw⟩ := v
          have hc1 : lo = hi' := hc.1
          have hc2 : bw = none := hc.2.1
          have hc3 : cw = lo := hc.2.2.1
          subst hc2
          have hv : r = cw := hv
          show lo ≤ r ∧ r ≤ hi'
          omega
        · rw [h2 j hjk]
          exact ha j hj
      next hc =>
        cases hq
        refine ⟨rfl, rfl, fun j hj => ?_⟩
        show match x_find ((ci.toNat, v) :: ov) j with
            | some v => x_ev ρ v.2.1 v.2.2 (g' j)
            | none => lo ≤ g' j ∧ g' j ≤ hi'
        unfold x_find
        by_cases hjk : ci.toNat = j
        · rw [if_pos hjk]
          subst hjk
          show x_ev ρ v.2.1 v.2.2 (g' ci.toNat)
          rw [h1]
          exact hv
        · rw [if_neg hjk, h2 j (fun z => hjk z.symm)]
          exact ha j hj
    | some s =>
      simp only at hq
      cases ov with
      | nil =>
        cases hq
        refine ⟨rfl, rfl, fun j hj => ?_⟩
        show min lo (x_iv E v).1 ≤ g' j ∧ g' j ≤ max hi' (x_iv E v).2
        by_cases hjk : j = k.toInt.toNat
        · subst hjk
          rw [h1]
          omega
        · rw [h2 j hjk]
          have hh : lo ≤ g j ∧ g j ≤ hi' := ha j hj
          omega
      | cons _ _ =>
        simp only at hq
        split at hq
        next ht =>
          cases hq
          refine ⟨rfl, rfl, fun j hj => ?_⟩
          have := hg j hj
          rw [if_pos ht] at this
          exact this
        next ht =>
          cases hq
          refine ⟨rfl, rfl, fun j hj => ?_⟩
          have := hg j hj
          rw [if_neg ht] at this
          exact this
  next => cases hq
def x_cell (ρ : List Int) (ad : List Nat) (sc : Nat) (tys : List (ClassId × FieldType)) (c : xC) (e : va_E) : Prop := match c with
  | .inl a => match a.1 with
    | 0 => ∃ (cA : ClassId) (f : Nat → Int32), e = .inl (cA, a.2.1, .inl f) ∧ (∃ t : Nat, tys[t]? = some (cA, .int)) ∧ x_arr ρ a.2.1 a.2.2.1 a.2.2.2.1 a.2.2.2.2 (fun j => (f j).toInt)
    | 1 => ∃ (cA : ClassId) (f : Nat → Int64), e = .inl (cA, a.2.1, .inr (.inl f)) ∧ (∃ t : Nat, tys[t]? = some (cA, .long)) ∧ x_arr ρ a.2.1 a.2.2.1 a.2.2.2.1 a.2.2.2.2 (fun j => (f j).toInt)
    | _ => ∃ (cA : ClassId) (f : Nat → Int32), e = .inl (cA, a.2.1, .inl f) ∧ (∃ t : Nat, tys[t]? = some (cA, .boolean)) ∧ x_arr ρ a.2.1 a.2.2.1 a.2.2.2.1 a.2.2.2.2 (fun j => (f j).toInt)
  | .inr o => ∃ vs : List Value, e = .inr (o.1, vs) ∧ x_vals ρ ad sc o.2 vs
theorem x_cell.mono {ρ ρ' : List Int} {ad ad' : List Nat} {sc : Nat} {tys tys' : List (ClassId × FieldType)} {c : xC} {e : va_E} (h1 : x_ext ρ ρ') (h2 : x_ext ad ad') (h3 : x_ext tys tys') (h : x_cell ρ ad sc tys c e) : x_cell ρ' ad' sc tys' c e := by
  cases c with
  | inl a =>
    obtain ⟨t, r⟩ := a
    match t, h with
    | 0, ⟨cA, f, e1, ⟨k, hk⟩, g⟩ => exact ⟨cA, f, e1, ⟨k, h3.get hk⟩, g.mono h1⟩
    | 1, ⟨cA, f, e1, ⟨k, hk⟩, g⟩ => exact ⟨cA, f, e1, ⟨k, h3.get hk⟩, g.mono h1⟩
    | _ + 2, ⟨cA, f, e1, ⟨k, hk⟩, g⟩ => exact ⟨cA, f, e1, ⟨k, h3.get hk⟩, g.mono h1⟩
  | inr o =>
    obtain ⟨vs, e1, g⟩ := h
    exact ⟨vs, e1, g.mono h1 h2⟩
def x_heap (ρ : List Int) (ad : List Nat) (sc : Nat) (tys : List (ClassId × FieldType)) (h : List xC) (ws : va_W) : Prop :=
  ad = ws.map (·.1) ∧ ws.length = h.length ∧ ∀ (k : Nat) (c : xC) (q : Nat × va_E), h[k]? = some c → ws[k]? = some q → x_cell ρ ad sc tys c q.2
theorem x_heap.mono {ρ ρ' : List Int} {ad : List Nat} {sc : Nat} {tys tys' : List (ClassId × FieldType)} {h : List xC} {ws : va_W} (h1 : x_ext ρ ρ') (h3 : x_ext tys tys') (g : x_heap ρ ad sc tys h ws) : x_heap ρ' ad sc tys' h ws :=
  ⟨g.1, g.2.1, fun k c q e1 e2 => (g.2.2 k c q e1 e2).mono h1 (x_ext.rf _) h3⟩
/-- a cell by its number -/
theorem x_heap.at {ρ : List Int} {ad : List Nat} {sc : Nat} {tys : List (ClassId × FieldType)} {h : List xC} {ws : va_W} (g : x_heap ρ ad sc tys h ws) {k : Nat} {c : xC} {a : Nat} (hk : h[k]? = some c) (ha : ad[k]? = some a) : ∃ e, ws[k]? = some (a, e) ∧ x_cell ρ ad sc tys c e := by
  have hl : k < ws.length := by rw [g.2.1]; exact (List.getElem?_eq_some_iff.mp hk).1
  have he : ws[k]? = some ws[k] := List.getElem?_eq_getElem hl
  rw [g.1, List.getElem?_map, he] at ha
  have ha : some ws[k].1 = some a := ha
  refine ⟨ws[k].2, ?_, g.2.2 k c _ hk he⟩
  rw [he, ← Option.some.inj ha]
theorem x_heap.set {ρ : List Int} {ad : List Nat} {sc : Nat} {tys : List (ClassId × FieldType)} {h : List xC} {ws : va_W} (g : x_heap ρ ad sc tys h ws) {k a : Nat} {e e' : va_E} {c : xC} (hk : ws[k]? = some (a, e)) (hc : x_cell ρ ad sc tys c e') : x_heap ρ ad sc tys (h.set k c) (ws.set k (a, e')) := by
  have hl : k < ws.length := (List.getElem?_eq_some_iff.mp hk).1
  refine ⟨?_, by rw [List.length_set, List.length_set]; exact g.2.1, fun j d q e1 e2 => ?_⟩
  · rw [g.1]
    apply List.ext_getElem?
    intro j
    rw [List.getElem?_map, List.getElem?_map]
    by_cases hj : k = j
    · subst hj
      rw [List.getElem?_set_self hl, hk]
      rfl
    · rw [List.getElem?_set_ne hj]
  · by_cases hj : k = j
    · subst hj
      rw [List.getElem?_set_self hl] at e2
      rw [List.getElem?_set_self (by rw [← g.2.1]; exact hl)] at e1
      cases e1
      cases e2
      exact hc
    · rw [List.getElem?_set_ne hj] at e1 e2
      exact g.2.2 j d q e1 e2
theorem x_heap.push {ρ : List Int} {ad : List Nat} {sc : Nat} {tys : List (ClassId × FieldType)} {h : List xC} {ws : va_W} (g : x_heap ρ ad sc tys h ws) {a : Nat} {e : va_E} {c : xC} (hc : x_cell ρ (ad ++ [a]) sc tys c e) : x_heap ρ (ad ++ [a]) sc tys (h ++ [c]) (ws ++ [(a, e)]) := by
  refine ⟨by rw [g.1, List.map_append]; rfl, by simp [g.2.1], fun j d q e1 e2 => ?_⟩
  by_cases hj : j < h.length
  · rw [List.getElem?_append_left hj] at e1
    rw [List.getElem?_append_left (by rw [g.2.1]; exact hj)] at e2
    exact (g.2.2 j d q e1 e2).mono (x_ext.rf _) (x_ext.app _ _) (x_ext.rf _)
  · rw [List.getElem?_append_right (by omega)] at e1
    rw [List.getElem?_append_right (by rw [g.2.1]; omega)] at e2
    have hz : j - h.length < 1 := (List.getElem?_eq_some_iff.mp e1).1
    have e0 : j - h.length = 0 := by omega
    rw [e0] at e1
    rw [g.2.1, e0] at e2
    cases e1
    cases e2
    exact hc
theorem x_heap.adlen {ρ : List Int} {ad : List Nat} {sc : Nat} {tys : List (ClassId × FieldType)} {h : List xC} {ws : va_W} (g : x_heap ρ ad sc tys h ws) : ad.length = h.length := by rw [g.1, List.length_map]; exact g.2.1
end
section
/-! a frame's walk, instruction by instruction -/
def x_rel (D : va_G) (cl : List vw_C) (B0 sc : Nat) (s : State) (ρ : List Int) (ad : List Nat) (h : List xC) (E : xE) (H : Heap) (locs : List Loc) : Prop :=
  ∃ (ws : va_W) (tys : List (ClassId × FieldType)), va_K D cl tys s ∧ va_P D cl ws H ∧ va_D (fun q : Nat => B0 ≤ q) ws ∧ va_S (fun q : Nat => B0 ≤ q) s.heap H locs ∧ x_heap ρ ad sc tys h ws ∧ x_env ρ E
theorem x_rel.grow {D : va_G} {cl : List vw_C} {B0 sc : Nat} {s : State} {ρ ρ' : List Int} {ad : List Nat} {h : List xC} {E E' : xE} {H : Heap} {locs : List Loc} (g : x_rel D cl B0 sc s ρ ad h E H locs) (h1 : x_ext ρ ρ') (h2 : x_env ρ' E') : x_rel D cl B0 sc s ρ' ad h E' H locs := by
  obtain ⟨ws, tys, a1, a2, a3, a4, a5, a6⟩ := g
  exact ⟨ws, tys, a1, a2, a3, a4, a5.mono h1 (x_ext.rf _), h2⟩
theorem x_rel.env {D : va_G} {cl : List vw_C} {B0 sc : Nat} {s : State} {ρ : List Int} {ad : List Nat} {h : List xC} {E : xE} {H : Heap} {locs : List Loc} (g : x_rel D cl B0 sc s ρ ad h E H locs) : x_env ρ E := by
  obtain ⟨ws, tys, a1, a2, a3, a4, a5, a6⟩ := g
  exact a6
def x_frm (nL sc : Nat) (ρ : List Int) (ad : List Nat) (L : List (Nat × xV)) (st : List xV) (ls : Array Slot) (stc : List Value) : Prop :=
  ∃ lv : List (Nat × Value), lv_has ls nL lv ∧ x_locs ρ ad sc L lv ∧ x_vals ρ ad sc st stc
def x_OKs (p : Program) (l : Launch) (e : Env) (R : Room) (s : State) (mid : MethodId) (args : Array Value) (below : List Frame) (meth : Method) (c : Code) (Q : State → Prop) (D : va_G) (cl : List vw_C) (B0 sc nL : Nat) (ρ0 : List Int) (ad0 : List Nat)
    (pc : Nat) (L : List (Nat × xV)) (st : List xV) (cc ss : Nat) (h : List xC) (E : xE) : Prop :=
  ∀ (ρ : List Int) (ad : List Nat) (H : Heap) (locs : List Loc) (ls : Array Slot) (stc : List Value), x_ext ρ0 ρ → x_ext ad0 ad → x_rel D cl B0 sc s ρ ad h E H locs → x_frm nL sc ρ ad L st ls stc →
    W p l e R s mid args below meth c H locs cc ss Q (F0 mid pc ls stc)
section XW
variable {p : Program} {l : Launch} {e : Env} {R : Room} {s : State} {mid : MethodId} {args : Array Value} {below : List Frame} {meth : Method} {c : Code} {Q : State → Prop} {D : va_G} {cl : List vw_C} {B0 sc nL : Nat} {ρ0 : List Int} {ad0 : List Nat}
  {pc : Nat} {L : List (Nat × xV)} {st : List xV} {cc ss : Nat} {h : List xC} {E : xE} {cb : ByteArray}
/-- one more value on the stack, no other change: the row -/
theorem x_w_push {n : Nat} {v : xV} {x : Value} (row : ∀ {H : Heap} {locs : List Loc} {ls : Array Slot} {rest : List Value}, W p l e R s mid args below meth c H locs cc ss Q (F0 mid (pc + n) ls (x :: rest)) → W p l e R s mid args below meth c H locs cc ss Q (F0 mid pc ls rest))
    (hv : ∀ (ρ : List Int) (ad : List Nat), x_val ρ ad sc v x) (k : x_OKs p l e R s mid args below meth c Q D cl B0 sc nL ρ0 ad0 (pc + n) L (v :: st) cc ss h E) : x_OKs p l e R s mid args below meth c Q D cl B0 sc nL ρ0 ad0 pc L st cc ss h E := by
  intro ρ ad H locs ls stc e1 e2 hr hf
  obtain ⟨lv, h1, h2, h3⟩ := hf
  exact row (k ρ ad H locs ls (x :: stc) e1 e2 hr ⟨lv, h1, h2, hv ρ ad, h3⟩)
/-- a local is loaded -/
theorem x_w_load {n i : Nat} {v : xV} (hv : x_find L i = some v) (row : ∀ {x : Value} {ρ : List Int} {ad : List Nat} {H : Heap} {locs : List Loc} {ls : Array Slot} {rest : List Value}, x_val ρ ad sc v x → ls[i]? = some (.val x) → W p l e R s mid args below meth c H locs cc ss Q (F0 mid (pc + n) ls (x :: rest)) → W p l e R s mid args below meth c H locs cc ss Q (F0 mid pc ls rest))
    (k : x_OKs p l e R s mid args below meth c Q D cl B0 sc nL ρ0 ad0 (pc + n) L (v :: st) cc ss h E) : x_OKs p l e R s mid args below meth c Q D cl B0 sc nL ρ0 ad0 pc L st cc ss h E := by
  intro ρ ad H locs ls stc e1 e2 hr hf
  obtain ⟨lv, h1, h2, h3⟩ := hf
  obtain ⟨x, j, g1, g2⟩ := h2.find hv
  exact row g2 (lv_at h1 j g1) (k ρ ad H locs ls (x :: stc) e1 e2 hr ⟨lv, h1, h2, g2, h3⟩)
/-- a local is stored, one word -/
theorem x_w_store1 {n i : Nat} {v : xV} {r : List xV} (row : ∀ {x : Value} {ρ : List Int} {ad : List Nat} {H : Heap} {locs : List Loc} {ls : Array Slot} {rest : List Value} {lv lv' : List (Nat × Value)}, x_val ρ ad sc v x → lv_has ls nL lv → (i, x) :: lv.filter (fun q => !(q.1 == i) && !(q.1 + 1 == i && q.2.category == 2)) = lv' →
      (∀ ls' : Array Slot, lv_has ls' nL lv' → W p l e R s mid args below meth c H locs cc ss Q (F0 mid (pc + n) ls' rest)) → W p l e R s mid args below meth c H locs cc ss Q (F0 mid pc ls (x :: rest)))
    (k : x_OKs p l e R s mid args below meth c Q D cl B0 sc nL ρ0 ad0 (pc + n) (x_put1 L i v) r cc ss h E) : x_OKs p l e R s mid args below meth c Q D cl B0 sc nL ρ0 ad0 pc L (v :: r) cc ss h E := by
  intro ρ ad H locs ls stc e1 e2 hr hf
  obtain ⟨lv, h1, h2, h3⟩ := hf
  obtain ⟨x, ys, rfl, g1, g2⟩ := h3.cons
  exact row g1 h1 rfl (fun ls' h' => k ρ ad H locs ls' ys e1 e2 hr ⟨_, h', h2.put1 g1, g2⟩)
theorem x_w_store2 {n i : Nat} {v : xV} {r : List xV} (row : ∀ {x : Value} {ρ : List Int} {ad : List Nat} {H : Heap} {locs : List Loc} {ls : Array Slot} {rest : List Value} {lv lv' : List (Nat × Value)}, x_val ρ ad sc v x → lv_has ls nL lv → (i, x) :: lv.filter (fun q => !(q.1 == i) && (!(q.1 == i + 1) && !(q.1 + 1 == i && q.2.category == 2))) = lv' →
      (∀ ls' : Array Slot, lv_has ls' nL lv' → W p l e R s mid args below meth c H locs cc ss Q (F0 mid (pc + n) ls' rest)) → W p l e R s mid args below meth c H locs cc ss Q (F0 mid pc ls (x :: rest)))
    (k : x_OKs p l e R s mid args below meth c Q D cl B0 sc nL ρ0 ad0 (pc + n) (x_put2 L i v) r cc ss h E) : x_OKs p l e R s mid args below meth c Q D cl B0 sc nL ρ0 ad0 pc L (v :: r) cc ss h E := by
  intro ρ ad H locs ls stc e1 e2 hr hf
  obtain ⟨lv, h1, h2, h3⟩ := hf
  obtain ⟨x, ys, rfl, g1, g2⟩ := h3.cons
  exact row g1 h1 rfl (fun ls' h' => k ρ ad H locs ls' ys e1 e2 hr ⟨_, h', h2.put2 g1, g2⟩)
theorem x_w_iinc {i : Nat} {n : Int} {v : xV} (hx : p.tables.exec = Jvm.exec) (hb : c.code = cb) (hd : decode cb pc = .ok (.iinc i n, 3)) (hv : x_find L i = some v) (ht : v.1 = 0) (hn : i < nL)
    (k : x_OKs p l e R s mid args below meth c Q D cl B0 sc nL ρ0 ad0 (pc + 3) (x_put1 L i (x_addc E v (Int32.ofInt n).toInt).1) st cc ss h (x_addc E v (Int32.ofInt n).toInt).2) : x_OKs p l e R s mid args below meth c Q D cl B0 sc nL ρ0 ad0 pc L st cc ss h E := by
  intro ρ ad H locs ls stc e1 e2 hr hf
  obtain ⟨lv, h1, h2, h3⟩ := hf
  obtain ⟨x, j, g1, g2⟩ := h2.find hv
  obtain ⟨a, rfl, g3⟩ := g2.int ht
  obtain ⟨t0, ρ', x1, x2, x3⟩ := x_addc_ok (b := Int32.ofInt n) hr.env g3
  refine lv_iinc (v := a + Int32.ofInt n) hx hb hd h1 (k := j) g1 rfl hn rfl (fun ls' h' => ?_)
  exact k ρ' ad H locs ls' stc (e1.tr x1) e2 (hr.grow x1 x2) ⟨_, h', (h2.mono x1 (x_ext.rf _)).put1 (x_val.mkI t0 x3), h3.mono x1 (x_ext.rf _)⟩
/-- two ints give an int -/
theorem x_w_op2 {v w : xV} {r : List xV} (f : xE → xV → xV → xV × xE) (op : Int32 → Int32 → Int32) (hf : ∀ {ρ : List Int} {a b : Int32}, x_env ρ E → x_ev ρ v.2.1 v.2.2 a.toInt → x_ev ρ w.2.1 w.2.2 b.toInt → x_resI ρ (f E v w) (op a b))
    (row : ∀ {x y : Int32} {ρ : List Int} {H : Heap} {locs : List Loc} {ls : Array Slot} {rest : List Value}, x_env ρ E → x_ev ρ w.2.1 w.2.2 y.toInt → W p l e R s mid args below meth c H locs cc ss Q (F0 mid (pc + 1) ls (.int (op x y) :: rest)) → W p l e R s mid args below meth c H locs cc ss Q (F0 mid pc ls (.int y :: .int x :: rest)))
    (hv : v.1 = 0) (hw : w.1 = 0) (k : x_OKs p l e R s mid args below meth c Q D cl B0 sc nL ρ0 ad0 (pc + 1) L ((f E v w).1 :: r) cc ss h (f E v w).2) : x_OKs p l e R s mid args below meth c Q D cl B0 sc nL ρ0 ad0 pc L (w :: v :: r) cc ss h E := by
  intro ρ ad H locs ls stc e1 e2 hr hfr
  obtain ⟨lv, h1, h2, h3⟩ := hfr
  obtain ⟨y, ys, rfl, g1, h4⟩ := h3.cons
  obtain ⟨x, zs, rfl, g2, h5⟩ := h4.cons
  obtain ⟨b, rfl, gb⟩ := g1.int hw
  obtain ⟨a, rfl, ga⟩ := g2.int hv
  obtain ⟨t0, ρ', x1, x2, x3⟩ := hf hr.env ga gb
  exact row hr.env gb (k ρ' ad H locs ls _ (e1.tr x1) e2 (hr.grow x1 x2) ⟨lv, h1, h2.mono x1 (x_ext.rf _), x_val.mkI t0 x3, h5.mono x1 (x_ext.rf _)⟩)
/-- two longs give a long -/
theorem x_w_opL {v w : xV} {r : List xV} (f : xE → xV → xV → xV × xE) (op : Int64 → Int64 → Int64) (hf : ∀ {ρ : List Int} {a b : Int64}, x_env ρ E → x_ev ρ v.2.1 v.2.2 a.toInt → x_ev ρ w.2.1 w.2.2 b.toInt → x_resL ρ (f E v w) (op a b))
    (row : ∀ {x y : Int64} {ρ : List Int} {H : Heap} {locs : List Loc} {ls : Array Slot} {rest : List Value}, x_env ρ E → x_ev ρ w.2.1 w.2.2 y.toInt → W p l e R s mid args below meth c H locs cc ss Q (F0 mid (pc + 1) ls (.long (op x y) :: rest)) → W p l e R s mid args below meth c H locs cc ss Q (F0 mid pc ls (.long y :: .long x :: rest)))
    (hv : v.1 = 1) (hw : w.1 = 1) (k : x_OKs p l e R s mid args below meth c Q D cl B0 sc nL ρ0 ad0 (pc + 1) L ((f E v w).1 :: r) cc ss h (f E v w).2) : x_OKs p l e R s mid args below meth c Q D cl B0 sc nL ρ0 ad0 pc L (w :: v :: r) cc ss h E := by
  intro ρ ad H locs ls stc e1 e2 hr hfr
  obtain ⟨lv, h1, h2, h3⟩ := hfr
  obtain ⟨y, ys, rfl, g1, h4⟩ := h3.cons
  obtain ⟨x, zs, rfl, g2, h5⟩ := h4.cons
  obtain ⟨b, rfl, gb⟩ := g1.long hw
  obtain ⟨a, rfl, ga⟩ := g2.long hv
  obtain ⟨t0, ρ', x1, x2, x3⟩ := hf hr.env ga gb
  exact row hr.env gb (k ρ' ad H locs ls _ (e1.tr x1) e2 (hr.grow x1 x2) ⟨lv, h1, h2.mono x1 (x_ext.rf _), x_val.mkL t0 x3, h5.mono x1 (x_ext.rf _)⟩)
theorem x_w_opS {v w : xV} {r : List xV} (f : xE → xV → xV → xV × xE) (op : Int64 → Int32 → Int64) (hf : ∀ {ρ : List Int} {a : Int64} {b : Int32}, x_env ρ E → x_ev ρ v.2.1 v.2.2 a.toInt → x_ev ρ w.2.1 w.2.2 b.toInt → x_resL ρ (f E v w) (op a b))
    (row : ∀ {x : Int64} {y : Int32} {H : Heap} {locs : List Loc} {ls : Array Slot} {rest : List Value}, W p l e R s mid args below meth c H locs cc ss Q (F0 mid (pc + 1) ls (.long (op x y) :: rest)) → W p l e R s mid args below meth c H locs cc ss Q (F0 mid pc ls (.int y :: .long x :: rest)))
    (hv : v.1 = 1) (hw : w.1 = 0) (k : x_OKs p l e R s mid args below meth c Q D cl B0 sc nL ρ0 ad0 (pc + 1) L ((f E v w).1 :: r) cc ss h (f E v w).2) : x_OKs p l e R s mid args below meth c Q D cl B0 sc nL ρ0 ad0 pc L (w :: v :: r) cc ss h E := by
  intro ρ ad H locs ls stc e1 e2 hr hfr
  obtain ⟨lv, h1, h2, h3⟩ := hfr
  obtain ⟨y, ys, rfl, g1, h4⟩ := h3.cons
  obtain ⟨x, zs, rfl, g2, h5⟩ := h4.cons
  obtain ⟨b, rfl, gb⟩ := g1.int hw
  obtain ⟨a, rfl, ga⟩ := g2.long hv
  obtain ⟨t0, ρ', x1, x2, x3⟩ := hf hr.env ga gb
  exact row (k ρ' ad H locs ls _ (e1.tr x1) e2 (hr.grow x1 x2) ⟨lv, h1, h2.mono x1 (x_ext.rf _), x_val.mkL t0 x3, h5.mono x1 (x_ext.rf _)⟩)
theorem x_w_lcmp {v w : xV} {r : List xV} (hx : p.tables.exec = Jvm.exec) (hb : c.code = cb) (hd : decode cb pc = .ok (.lcmp, 1))
    (hv : v.1 = 1) (hw : w.1 = 1) (k : x_OKs p l e R s mid args below meth c Q D cl B0 sc nL ρ0 ad0 (pc + 1) L ((x_cmpL E v w).1 :: r) cc ss h (x_cmpL E v w).2) : x_OKs p l e R s mid args below meth c Q D cl B0 sc nL ρ0 ad0 pc L (w :: v :: r) cc ss h E := by
  intro ρ ad H locs ls stc e1 e2 hr hfr
  obtain ⟨lv, h1, h2, h3⟩ := hfr
  obtain ⟨y, ys, rfl, g1, h4⟩ := h3.cons
  obtain ⟨x, zs, rfl, g2, h5⟩ := h4.cons
  obtain ⟨b, rfl, gb⟩ := g1.long hw
  obtain ⟨a, rfl, ga⟩ := g2.long hv
  obtain ⟨t0, ρ', x1, x2, x3⟩ := x_cmpL_ok hr.env ga gb
  exact W.lcmp hx hb hd (k ρ' ad H locs ls _ (e1.tr x1) e2 (hr.grow x1 x2) ⟨lv, h1, h2.mono x1 (x_ext.rf _), x_val.mkI t0 x3, h5.mono x1 (x_ext.rf _)⟩)
theorem x_w_i2l {v : xV} {r : List xV} (hx : p.tables.exec = Jvm.exec) (hb : c.code = cb) (hd : decode cb pc = .ok (.i2l, 1)) (hv : v.1 = 0) (k : x_OKs p l e R s mid args below meth c Q D cl B0 sc nL ρ0 ad0 (pc + 1) L ((1, v.2) :: r) cc ss h E) : x_OKs p l e R s mid args below meth c Q D cl B0 sc nL ρ0 ad0 pc L (v :: r) cc ss h E := by
  intro ρ ad H locs ls stc e1 e2 hr hfr
  obtain ⟨lv, h1, h2, h3⟩ := hfr
  obtain ⟨y, ys, rfl, g1, h4⟩ := h3.cons
  obtain ⟨b, rfl, gb⟩ := g1.int hv
  exact lv_i2l hx hb hd rfl (k ρ ad H locs ls _ e1 e2 hr ⟨lv, h1, h2, x_val.mkL (v := (1, v.2)) rfl (x_i2l_ok gb), h4⟩)
theorem x_w_l2i {v : xV} {r : List xV} (hx : p.tables.exec = Jvm.exec) (hb : c.code = cb) (hd : decode cb pc = .ok (.l2i, 1)) (hv : v.1 = 1) (k : x_OKs p l e R s mid args below meth c Q D cl B0 sc nL ρ0 ad0 (pc + 1) L ((x_l2i E v).1 :: r) cc ss h (x_l2i E v).2) : x_OKs p l e R s mid args below meth c Q D cl B0 sc nL ρ0 ad0 pc L (v :: r) cc ss h E := by
  intro ρ ad H locs ls stc e1 e2 hr hfr
  obtain ⟨lv, h1, h2, h3⟩ := hfr
  obtain ⟨y, ys, rfl, g1, h4⟩ := h3.cons
  obtain ⟨b, rfl, gb⟩ := g1.long hv
  obtain ⟨t0, ρ', x1, x2, x3⟩ := x_l2i_ok hr.env gb
  exact lv_l2i hx hb hd rfl (k ρ' ad H locs ls _ (e1.tr x1) e2 (hr.grow x1 x2) ⟨lv, h1, h2.mono x1 (x_ext.rf _), x_val.mkI t0 x3, h4.mono x1 (x_ext.rf _)⟩)
theorem x_w_dup {v : xV} {r : List xV} (hx : p.tables.exec = Jvm.exec) (hb : c.code = cb) (hd : decode cb pc = .ok (.dup, 1)) (hv : x_cat v = 1) (k : x_OKs p l e R s mid args below meth c Q D cl B0 sc nL ρ0 ad0 (pc + 1) L (v :: v :: r) cc ss h E) : x_OKs p l e R s mid args below meth c Q D cl B0 sc nL ρ0 ad0 pc L (v :: r) cc ss h E := by
  intro ρ ad H locs ls stc e1 e2 hr hfr
  obtain ⟨lv, h1, h2, h3⟩ := hfr
  obtain ⟨y, ys, rfl, g1, h4⟩ := h3.cons
  exact lv_dup hx hb hd (by rw [g1.cat]; exact hv) (k ρ ad H locs ls _ e1 e2 hr ⟨lv, h1, h2, g1, g1, h4⟩)
theorem x_w_pop {v : xV} {r : List xV} (hx : p.tables.exec = Jvm.exec) (hb : c.code = cb) (hd : decode cb pc = .ok (.pop, 1)) (hv : x_cat v = 1) (k : x_OKs p l e R s mid args below meth c Q D cl B0 sc nL ρ0 ad0 (pc + 1) L r cc ss h E) : x_OKs p l e R s mid args below meth c Q D cl B0 sc nL ρ0 ad0 pc L (v :: r) cc ss h E := by
  intro ρ ad H locs ls stc e1 e2 hr hfr
  obtain ⟨lv, h1, h2, h3⟩ := hfr
  obtain ⟨y, ys, rfl, g1, h4⟩ := h3.cons
  exact lv_pop hx hb hd (by rw [g1.cat]; exact hv) (k ρ ad H locs ls _ e1 e2 hr ⟨lv, h1, h2, h4⟩)
theorem x_w_dup2 {v w : xV} {r : List xV} (hx : p.tables.exec = Jvm.exec) (hb : c.code = cb) (hd : decode cb pc = .ok (.dup2, 1)) (hv : x_cat v = 1) (hw : x_cat w = 1) (k : x_OKs p l e R s mid args below meth c Q D cl B0 sc nL ρ0 ad0 (pc + 1) L (v :: w :: v :: w :: r) cc ss h E) : x_OKs p l e R s mid args below meth c Q D cl B0 sc nL ρ0 ad0 pc L (v :: w :: r) cc ss h E := by
  intro ρ ad H locs ls stc e1 e2 hr hfr
  obtain ⟨lv, h1, h2, h3⟩ := hfr
  obtain ⟨y, ys, rfl, g1, h4⟩ := h3.cons
  obtain ⟨z, zs, rfl, g2, h5⟩ := h4.cons
  exact lv_dup2_11 hx hb hd (by rw [g1.cat]; exact hv) (by rw [g2.cat]; exact hw) (k ρ ad H locs ls _ e1 e2 hr ⟨lv, h1, h2, g1, g2, g1, g2, h5⟩)
theorem x_w_goto {off : Int} (hx : p.tables.exec = Jvm.exec) (hb : c.code = cb) (hd : decode cb pc = .ok (.goto off, 3)) (ht : 0 ≤ (pc : Int) + off) (k : x_OKs p l e R s mid args below meth c Q D cl B0 sc nL ρ0 ad0 ((pc : Int) + off).toNat L st cc ss h E) : x_OKs p l e R s mid args below meth c Q D cl B0 sc nL ρ0 ad0 pc L st cc ss h E := by
  intro ρ ad H locs ls stc e1 e2 hr hfr
  exact lv_goto hx hb hd (by omega) (k ρ ad H locs ls stc e1 e2 hr hfr)
theorem x_w_br {cn : ClassFile.Cond} {v w : xV} {r : List xV} {tgt : Nat} (hv : v.1 = 0) (hw : w.1 = 0) {st0 : List xV} (hst : ∀ {ρ : List Int} {ad : List Nat} {stc : List Value}, x_vals ρ ad sc st0 stc → ∃ x y rest, (x_vals ρ ad sc r rest ∧ x_val ρ ad sc v x ∧ x_val ρ ad sc w y) ∧
      ∀ {H : Heap} {locs : List Loc} {ls : Array Slot} {a b : Int32}, x = .int a → y = .int b → (x_holds cn a.toInt b.toInt → W p l e R s mid args below meth c H locs cc ss Q (F0 mid tgt ls rest)) → (¬ x_holds cn a.toInt b.toInt → W p l e R s mid args below meth c H locs cc ss Q (F0 mid (pc + 3) ls rest)) → W p l e R s mid args below meth c H locs cc ss Q (F0 mid pc ls stc))
    (kt : ∀ E' ∈ x_alts E cn v w, x_OKs p l e R s mid args below meth c Q D cl B0 sc nL ρ0 ad0 tgt L r cc ss h E') (kf : ∀ E' ∈ x_alts E (x_neg cn) v w, x_OKs p l e R s mid args below meth c Q D cl B0 sc nL ρ0 ad0 (pc + 3) L r cc ss h E') : x_OKs p l e R s mid args below meth c Q D cl B0 sc nL ρ0 ad0 pc L st0 cc ss h E := by
  intro ρ ad H locs ls stc e1 e2 hr hfr
  obtain ⟨lv, h1, h2, h3⟩ := hfr
  obtain ⟨x, y, rest, ⟨g0, g1, g2⟩, row⟩ := hst h3
  obtain ⟨a, rfl, ga⟩ := g1.int hv
  obtain ⟨b, rfl, gb⟩ := g2.int hw
  refine row rfl rfl (fun hc => ?_) (fun hc => ?_)
  · obtain ⟨E', m, k⟩ := x_alts_ok hr.env ga gb (x_b32 a) (x_b32 b) hc
    exact kt E' m ρ ad H locs ls rest e1 e2 (hr.grow (x_ext.rf _) k) ⟨lv, h1, h2, g0⟩
  · obtain ⟨E', m, k⟩ := x_alts_ok hr.env ga gb (x_b32 a) (x_b32 b) (x_neg_ok hc)
    exact kf E' m ρ ad H locs ls rest e1 e2 (hr.grow (x_ext.rf _) k) ⟨lv, h1, h2, g0⟩
theorem x_le32 {a b : Int32} : a ≤ b ↔ ¬ b.toInt < a.toInt := by rw [Int32.le_iff_toInt_le]; omega
theorem x_w_icmp {cn : ClassFile.Cond} {off : Int} {v w : xV} {r : List xV} (hx : p.tables.exec = Jvm.exec) (hb : c.code = cb) (hd : decode cb pc = .ok (.if_icmp cn off, 3)) (ht : 0 ≤ (pc : Int) + off) (hv : v.1 = 0) (hw : w.1 = 0)
    (kt : ∀ E' ∈ x_alts E cn v w, x_OKs p l e R s mid args below meth c Q D cl B0 sc nL ρ0 ad0 ((pc : Int) + off).toNat L r cc ss h E') (kf : ∀ E' ∈ x_alts E (x_neg cn) v w, x_OKs p l e R s mid args below meth c Q D cl B0 sc nL ρ0 ad0 (pc + 3) L r cc ss h E') : x_OKs p l e R s mid args below meth c Q D cl B0 sc nL ρ0 ad0 pc L (w :: v :: r) cc ss h E := by
  refine x_w_br hv hw (fun {ρ ad stc} h3 => ?_) kt kf
  obtain ⟨y, ys, rfl, g1, h4⟩ := h3.cons
  obtain ⟨x, zs, rfl, g2, h5⟩ := h4.cons
  refine ⟨x, y, zs, ⟨h5, g2, g1⟩, fun {H locs ls a b} ea eb k1 k2 => ?_⟩
  subst ea
  subst eb
  have ht' : (pc : Int) + off = (((pc : Int) + off).toNat : Int) := by omega
  cases cn with
  | eq => exact lv_icmp_eq hx hb hd ht' (fun q => k1 (by rw [q]; exact rfl)) (fun q => k2 (fun z => q (Int32.toInt_inj.mp z)))
  | ne => exact lv_icmp_ne hx hb hd ht' (fun q => k1 (fun z => q (Int32.toInt_inj.mp z))) (fun q => k2 (fun z => z (by rw [q])))
  | lt => exact lv_icmp_lt hx hb hd ht' (fun q => k1 (Int32.lt_iff_toInt_lt.mp q)) (fun q => k2 (fun z => q (Int32.lt_iff_toInt_lt.mpr z)))
  | ge => exact lv_icmp_ge hx hb hd ht' (fun q => k1 (x_le32.mp q)) (fun q => k2 (fun z => q (x_le32.mpr z)))
  | gt => exact lv_icmp_gt hx hb hd ht' (fun q => k1 (Int32.lt_iff_toInt_lt.mp q)) (fun q => k2 (fun z => q (Int32.lt_iff_toInt_lt.mpr z)))
  | le => exact lv_icmp_le hx hb hd ht' (fun q => k1 (x_le32.mp q)) (fun q => k2 (fun z => q (x_le32.mpr z)))
theorem x_w_ifc {cn : ClassFile.Cond} {off : Int} {v : xV} {r : List xV} (hx : p.tables.exec = Jvm.exec) (hb : c.code = cb) (hd : decode cb pc = .ok (.ifCond cn off, 3)) (ht : 0 ≤ (pc : Int) + off) (hv : v.1 = 0)
    (kt : ∀ E' ∈ x_alts E cn v (0, none, 0), x_OKs p l e R s mid args below meth c Q D cl B0 sc nL ρ0 ad0 ((pc : Int) + off).toNat L r cc ss h E') (kf : ∀ E' ∈ x_alts E (x_neg cn) v (0, none, 0), x_OKs p l e R s mid args below meth c Q D cl B0 sc nL ρ0 ad0 (pc + 3) L r cc ss h E') : x_OKs p l e R s mid args below meth c Q D cl B0 sc nL ρ0 ad0 pc L (v :: r) cc ss h E := by
  refine x_w_br (w := (0, none, 0)) hv rfl (fun {ρ ad stc} h3 => ?_) kt kf
  obtain ⟨x, zs, rfl, g2, h4⟩ := h3.cons
  refine ⟨x, .int 0, zs, ⟨h4, g2, ⟨0, rfl, rfl⟩⟩, fun {H locs ls a b} ea eb k1 k2 => ?_⟩
  subst ea
  cases eb
  have ht' : (pc : Int) + off = (((pc : Int) + off).toNat : Int) := by omega
  cases cn with
  | eq => exact lv_if_eq hx hb hd ht' (fun q => k1 (by rw [q]; exact rfl)) (fun q => k2 (fun z => q (Int32.toInt_inj.mp z)))
  | ne => exact lv_if_ne hx hb hd ht' (fun q => k1 (fun z => q (Int32.toInt_inj.mp z))) (fun q => k2 (fun z => z (by rw [q])))
  | lt => exact lv_if_lt hx hb hd ht' (fun q => k1 (Int32.lt_iff_toInt_lt.mp q)) (fun q => k2 (fun z => q (Int32.lt_iff_toInt_lt.mpr z)))
  | ge => exact lv_if_ge hx hb hd ht' (fun q => k1 (x_le32.mp q)) (fun q => k2 (fun z => q (x_le32.mpr z)))
  | gt => exact lv_if_gt hx hb hd ht' (fun q => k1 (Int32.lt_iff_toInt_lt.mp q)) (fun q => k2 (fun z => q (Int32.lt_iff_toInt_lt.mpr z)))
  | le => exact lv_if_le hx hb hd ht' (fun q => k1 (x_le32.mp q)) (fun q => k2 (fun z => q (x_le32.mpr z)))
end XW
end
section
/-! what the tables say, and the instructions that touch cells -/
def x_tbl : List Cond := lw_tbl.filter goodWord
def x_isNest : Cond → Bool
  | .methodLinkNest .. => true
  | _ => false
def x_nest : List Cond := lw_tbl.filter x_isNest
def x_tyk (k : Nat) (ty : FieldType) : Prop := match k with
  | 0 => ty = .int
  | 1 => ty = .long
  | 2 => (∃ n, ty = .object n) ∨ ∃ t, ty = .array t
  | 3 => ty = .boolean
  | _ => False
def x_rtk (k : Nat) (ty : Option FieldType) : Prop := match k with
  | 0 => ty = none
  | 1 => ty = some .int
  | 2 => ty = some .boolean
  | 3 => ty = some .long
  | _ => True
/-- a class of the worlds -/
def x_okc (P : xP) (ci : Nat) (q : vw_C) : Prop := (∀ w ∈ u_ws q.1 q.2.1 q.2.2, w ∈ x_tbl) ∧ q.2.2 = (x_cls P ci).length ∧ (∀ a, a < q.2.2 → ∀ b, b < q.2.2 → a ≠ b → (q.2.1 a).2.1 ≠ (q.2.1 b).2.1) ∧
  ∃ ty : Nat → FieldType, (∀ k, k < q.2.2 → parseFieldDescriptor (q.2.1 k).2.2.1 = some (ty k)) ∧ ∀ (k kd : Nat), (x_cls P ci)[k]? = some kd → x_tyk (kd % 10) (ty k) ∧ (q.2.1 k).2.2.2 = decide (10 ≤ kd) ∧ (q.2.1 k).1 = q.1
def x_okm (P : xP) (j : Nat) : Prop := Cond.code (x_nm P j) (x_by P j) (x_maxL P j) (x_rt P j) ∈ x_tbl ∧ Cond.initialized (x_nm P j).cls ∈ x_tbl ∧ plainName (x_nm P j).cls = true ∧ ((x_nm P j).cls ≠ "java/lang/invoke/MethodHandle" ∧ (x_nm P j).cls ≠ "java/lang/invoke/VarHandle") ∧ x_rtk (x_retk P j) (x_rt P j) ∧ j ≠ 0
def x_oka (P : xP) (j : Nat) (n : Int) : Prop := (parseMethodDescriptor (x_nm P j).desc).map (fun d => d.parameters.length) = some n.toNat
def x_okp (cl : List vw_C) (P : xP) (own : String) (idx : Nat) (q : Nat × Nat × Int) : Prop := match q.1 with
  | 1 => ∃ C : vw_C, cl[q.2.1]? = some C ∧ q.2.2.toNat < C.2.2 ∧ Cond.fieldLink own idx (C.2.1 q.2.2.toNat).1 (C.2.1 q.2.2.toNat).2.1 (C.2.1 q.2.2.toNat).2.2.1 ∈ x_tbl
  | 2 => x_okm P q.2.1 ∧ x_oka P q.2.1 q.2.2 ∧ Cond.methodLink own idx (x_nm P q.2.1) ∈ x_tbl ∧ Cond.instanceMethod (x_nm P q.2.1) ∈ x_tbl ∧ Cond.selects (x_nm P q.2.1).cls (x_nm P q.2.1) (x_nm P q.2.1) ∈ x_tbl ∧ ∃ C : vw_C, cl[x_mci P q.2.1]? = some C ∧ C.1 = (x_nm P q.2.1).cls
  | 3 => x_okm P q.2.1 ∧ x_oka P q.2.1 q.2.2 ∧ Cond.methodLink own idx (x_nm P q.2.1) ∈ x_tbl ∧ Cond.instanceMethod (x_nm P q.2.1) ∈ x_tbl ∧ (x_nm P q.2.1).name = "<init>" ∧ x_rt P q.2.1 = none
  | 4 => x_okm P q.2.1 ∧ x_oka P q.2.1 q.2.2 ∧ (∃ host : String, Cond.methodLinkNest own idx (x_nm P q.2.1) host ∈ x_nest) ∧ Cond.instanceMethod (x_nm P q.2.1) ∈ x_tbl ∧ (x_nm P q.2.1).name = "<init>" ∧ x_rt P q.2.1 = none
  | 5 => Cond.methodLink own idx objectInit ∈ x_tbl ∧ Cond.instanceMethod objectInit ∈ x_tbl ∧ Cond.code objectInit ⟨#[0xb1]⟩ 1 none ∈ x_tbl
  | 6 => x_okm P q.2.1 ∧ x_oka P q.2.1 q.2.2 ∧ Cond.methodLink own idx (x_nm P q.2.1) ∈ x_tbl ∧ Cond.static (x_nm P q.2.1) ∈ x_tbl
  | 7 => ∃ v : Int32, Cond.constant own idx v ∈ x_tbl ∧ v.toInt = q.2.2
  | 8 => ∃ v : Int64, Cond.constantLong own idx v ∈ x_tbl ∧ v.toInt = q.2.2
  | 9 => ∃ C : vw_C, cl[q.2.1]? = some C ∧ Cond.classLink own idx C.1 ∈ x_tbl ∧ Cond.instantiable C.1 C.2.2 ∈ x_tbl ∧ Cond.initialized C.1 ∈ x_tbl
  | 10 => Cond.methodLink own idx arraycopyName ∈ x_tbl ∧ Cond.native arraycopyName ∈ x_tbl ∧ Cond.static arraycopyName ∈ x_tbl ∧ Cond.initialized "java/lang/System" ∈ x_tbl
  | 13 => Cond.methodLink own idx Lib.Math.min.name ∈ x_tbl ∧ Cond.static Lib.Math.min.name ∈ x_tbl ∧ Cond.initialized "java/lang/Math" ∈ x_tbl ∧ Cond.code Lib.Math.min.name Lib.Math.min.code 2 (some .int) ∈ x_tbl
  | 14 => Cond.methodLink own idx Lib.Math.max.name ∈ x_tbl ∧ Cond.static Lib.Math.max.name ∈ x_tbl ∧ Cond.initialized "java/lang/Math" ∈ x_tbl ∧ Cond.code Lib.Math.max.name Lib.Math.max.code 2 (some .int) ∈ x_tbl
  | _ => True
def x_OK (cl : List vw_C) (P : xP) : Prop := (∀ (m pc : Nat) (i : Instr) (len : Nat), x_code P m pc = some (i, len) → decode (x_by P m) pc = .ok (i, len)) ∧ (∀ (ci : Nat) (q : vw_C), cl[ci]? = some q → x_okc P ci q) ∧
  (∀ m idx : Nat, x_okp cl P (x_nm P m).cls idx (x_pool P m idx)) ∧ Cond.arrayClass .int ∈ x_tbl ∧ Cond.arrayClass .long ∈ x_tbl ∧ Cond.arrayClass .boolean ∈ x_tbl ∧ ∀ (m : Nat) (C : vw_C), (x_nm P m).name = "<init>" → cl[x_mci P m]? = some C → C.1 = (x_nm P m).cls
theorem x_fit_ok {ρ : List Int} {ad : List Nat} {sc : Nat} {E : xE} {kd : Nat} {v : xV} {x : Value} {ty : FieldType} (hE : x_env ρ E) (hv : x_val ρ ad sc v x) (hf : x_fit E kd v = true) (ht : x_tyk (kd % 10) ty) : narrow ty x = x ∧ fits ty x = true := by
  unfold x_fit at hf
  generalize kd % 10 = k at hf ht
  match k, hf, ht with
  | 0, hf, ht =>
    have ht : ty = .int := ht
    obtain ⟨n, rfl, -⟩ := hv.int (by simpa using hf)
    subst ht
    exact ⟨rfl, rfl⟩
  | 1, hf, ht =>
    have ht : ty = .long := ht
    obtain ⟨n, rfl, -⟩ := hv.long (by simpa using hf)
    subst ht
    exact ⟨rfl, rfl⟩
  | 2, hf, ht =>
    obtain ⟨t, b, c⟩ := v
    have ht : (∃ n, ty = .object n) ∨ ∃ t, ty = .array t := ht
    simp only [Bool.or_eq_true, beq_iff_eq] at hf
    have hx : x = .null ∨ ∃ a, x = .ref a := by
      rcases hf with h1 | h1
      · subst h1; exact Or.inl hv
      · subst h1; obtain ⟨a, h2, -⟩ := hv; exact Or.inr ⟨a, h2⟩
    rcases ht with ⟨n, rfl⟩ | ⟨n, rfl⟩ <;> rcases hx with rfl | ⟨a, rfl⟩ <;> exact ⟨rfl, rfl⟩
  | 3, hf, ht =>
    have ht : ty = .boolean := ht
    simp only [Bool.and_eq_true, beq_iff_eq, decide_eq_true_eq] at hf
    obtain ⟨n, rfl, g⟩ := hv.int hf.1.1
    have hb := x_iv_ok hE g
    subst ht
    have h01 : n = 0 ∨ n = 1 := by
      have : n.toInt = 0 ∨ n.toInt = 1 := by omega
      rcases this with q | q
      · exact Or.inl (Int32.toInt_inj.mp q)
      · exact Or.inr (Int32.toInt_inj.mp q)
    rcases h01 with rfl | rfl <;> exact ⟨rfl, rfl⟩
  | _ + 4, hf, _ => cases hf
section XC
variable {p : Program} {l : Launch} {e : Env} {R : Room} {s : State} {mid : MethodId} {args : Array Value} {below : List Frame} {meth : Method} {c : Code} {Q : State → Prop} {D : va_G} {cl : List vw_C} {B0 sc nL : Nat} {ρ0 : List Int} {ad0 : List Nat}
  {pc : Nat} {L : List (Nat × xV)} {st : List xV} {cc ss : Nat} {h : List xC} {E : xE} {cb : ByteArray} {P : xP} {own : String}
theorem x_w_get {idx : Nat} {b : Option Nat} {k : Int} {r : List xV} {ci : Nat} {f : Int} {vs : List xV} {v : xV} (hx : p.tables.exec = Jvm.exec) (hb : c.code = cb) (hown : s.vm.findClass own = some mid.cls) (hts : ∀ w ∈ x_tbl, w.before args s = true) (hC : ∀ (ci : Nat) (q : vw_C), cl[ci]? = some q → x_okc P ci q) (hp : x_okp cl P own idx (1, ci, f))
    (hd : decode cb pc = .ok (.getfield idx, 3)) (ho : h[k.toNat]? = some (.inr (ci, vs))) (hv : vs[f.toNat]? = some v) (kk : x_OKs p l e R s mid args below meth c Q D cl B0 sc nL ρ0 ad0 (pc + 3) L (v :: r) cc ss h E) : x_OKs p l e R s mid args below meth c Q D cl B0 sc nL ρ0 ad0 pc L ((3, b, k) :: r) cc ss h E := by
  intro ρ ad H locs ls stc e1 e2 hr hfr
  obtain ⟨lv, h1, h2, h3⟩ := hfr
  obtain ⟨y, ys, rfl, g1, h4⟩ := h3.cons
  obtain ⟨a, rfl, ga⟩ := g1
  have hr0 := hr
  obtain ⟨ws, tys, aK, aP, aD, aS, aH, aE⟩ := hr
  obtain ⟨ev, w1, w2⟩ := aH.at ho ga
  obtain ⟨xs, rfl, w3⟩ := w2
  obtain ⟨x, w4, w5⟩ := w3.get hv
  obtain ⟨⟨C, T, N⟩, p1, p2, p3⟩ := hp
  obtain ⟨c1, -⟩ := hC ci (C, T, N) p1
  exact va_get hx hb hts c1 hown aK aP k.toNat w1 p1 f.toNat p2 (hts _ p3) (fun _ q => q) w4 hd (kk ρ ad H locs ls _ e1 e2 hr0 ⟨lv, h1, h2, w5, h4⟩)
theorem x_w_put {idx : Nat} {b : Option Nat} {k : Int} {r : List xV} {ci : Nat} {f : Int} {vs : List xV} {v : xV} {kd : Nat} (hx : p.tables.exec = Jvm.exec) (hb : c.code = cb) (hown : s.vm.findClass own = some mid.cls) (hts : ∀ w ∈ x_tbl, w.before args s = true) (hC : ∀ (ci : Nat) (q : vw_C), cl[ci]? = some q → x_okc P ci q) (hp : x_okp cl P own idx (1, ci, f))
    (hd : decode cb pc = .ok (.putfield idx, 3)) (ho : h[k.toNat]? = some (.inr (ci, vs))) (hl : f.toNat < vs.length) (hkd : (x_cls P ci)[f.toNat]? = some kd) (hfit : x_fit E kd v = true) (hfin : kd < 10 ∨ meth.name = "<init>" ∧ ∀ C : vw_C, cl[ci]? = some C → C.1 = own)
    (kk : x_OKs p l e R s mid args below meth c Q D cl B0 sc nL ρ0 ad0 (pc + 3) L r cc ss (h.set k.toNat (.inr (ci, vs.set f.toNat v))) E) : x_OKs p l e R s mid args below meth c Q D cl B0 sc nL ρ0 ad0 pc L (v :: (3, b, k) :: r) cc ss h E := by
  intro ρ ad H locs ls stc e1 e2 hr hfr
  obtain ⟨lv, h1, h2, h3⟩ := hfr
  obtain ⟨x, xs0, rfl, gx, h4⟩ := h3.cons
  obtain ⟨y, ys, rfl, g1, h5⟩ := h4.cons
  obtain ⟨a, rfl, ga⟩ := g1
  obtain ⟨ws, tys, aK, aP, aD, aS, aH, aE⟩ := hr
  obtain ⟨ev, w1, w2⟩ := aH.at ho ga
  obtain ⟨xs, rfl, w3⟩ := w2
  obtain ⟨⟨C, T, N⟩, p1, p2, p3⟩ := hp
  obtain ⟨c1, c2, c3, ty, c4, c5⟩ := hC ci (C, T, N) p1
  obtain ⟨c6, c7, c8⟩ := c5 f.toNat kd hkd
  obtain ⟨f1, f2⟩ := x_fit_ok aE gx hfit c6
  have hl' : f.toNat < xs.length := by rw [← w3.len]; exact hl
  rcases hfin with hfin | ⟨hin, hown2⟩
  · exact va_put hx hb hts c1 ty c4 c3 hown aK aP aD aS k.toNat w1 p1 f.toNat p2 (hts _ p3) (fun _ q => q) (by rw [c7]; simp; omega) (c4 _ p2) f1 f2 hl' hd
      (fun H1 locs1 hP hD hS => kk ρ ad H1 locs1 ls _ e1 e2 ⟨_, tys, aK, hP, hD, hS, aH.set w1 ⟨_, rfl, w3.set gx⟩, aE⟩ ⟨lv, h1, h2, h5⟩)
  · by_cases hk : kd < 10
    · exact va_put hx hb hts c1 ty c4 c3 hown aK aP aD aS k.toNat w1 p1 f.toNat p2 (hts _ p3) (fun _ q => q) (by rw [c7]; simp; omega) (c4 _ p2) f1 f2 hl' hd
        (fun H1 locs1 hP hD hS => kk ρ ad H1 locs1 ls _ e1 e2 ⟨_, tys, aK, hP, hD, hS, aH.set w1 ⟨_, rfl, w3.set gx⟩, aE⟩ ⟨lv, h1, h2, h5⟩)
    · exact va_putF hx hb hts c1 ty c4 c3 hown aK aP aD aS k.toNat w1 p1 f.toNat p2 (hts _ p3) (fun _ q => q) (by rw [c7]; simp; omega) hin (c8.trans (hown2 _ p1)) (c4 _ p2) f1 f2 hl' hd
        (fun H1 locs1 hP hD hS => kk ρ ad H1 locs1 ls _ e1 e2 ⟨_, tys, aK, hP, hD, hS, aH.set w1 ⟨_, rfl, w3.set gx⟩, aE⟩ ⟨lv, h1, h2, h5⟩)
theorem x_w_ald {i : xV} {b : Option Nat} {k : Int} {r : List xV} {a : xA} {q : xV × xE} {ty : Nat} {ins : Instr} (hx : p.tables.exec = Jvm.exec) (hb : c.code = cb) (hd : decode cb pc = .ok (ins, 1)) (hi : i.1 = 0) (hty : a.1 = ty) (ho : h[k.toNat]? = some (.inl a))
    (hcase : (ins = .iaload ∧ ty = 0 ∧ x_rd 0 E a i = some q) ∨ (ins = .laload ∧ ty = 1 ∧ x_rd 1 E a i = some q) ∨ (ins = .baload ∧ ty = 2 ∧ x_rd 0 E a i = some q))
    (kk : x_OKs p l e R s mid args below meth c Q D cl B0 sc nL ρ0 ad0 (pc + 1) L (q.1 :: r) cc ss h q.2) : x_OKs p l e R s mid args below meth c Q D cl B0 sc nL ρ0 ad0 pc L (i :: (3, b, k) :: r) cc ss h E := by
  intro ρ ad H locs ls stc e1 e2 hr hfr
  obtain ⟨lv, h1, h2, h3⟩ := hfr
  obtain ⟨x, xs0, rfl, gx, h4⟩ := h3.cons
  obtain ⟨y, ys, rfl, g1, h5⟩ := h4.cons
  obtain ⟨ad1, rfl, ga⟩ := g1
  obtain ⟨n, rfl, gn⟩ := gx.int hi
  have hr0 := hr
  obtain ⟨ws, tys, aK, aP, aD, aS, aH, aE⟩ := hr
  obtain ⟨ev, w1, w2⟩ := aH.at ho ga
  obtain ⟨t, nn, lo, hi', ov⟩ := a
  have hty : t = ty := hty
  subst hty
  rcases hcase with ⟨rfl, rfl, hq⟩ | ⟨rfl, rfl, hq⟩ | ⟨rfl, rfl, hq⟩
  · obtain ⟨cA, f, rfl, ⟨t0, ht⟩, w3⟩ := w2
    obtain ⟨v1, t1, ρ', x1, x2, x3⟩ := x_rd_okI aE w3 gn hq
    exact va_iald hx hb aK aP k.toNat t0 w1 ht v1 hd (kk ρ' ad H locs ls _ (e1.tr x1) e2 (hr0.grow x1 x2) ⟨lv, h1, h2.mono x1 (x_ext.rf _), x_val.mkI t1 x3, h5.mono x1 (x_ext.rf _)⟩)
  · obtain ⟨cA, f, rfl, ⟨t0, ht⟩, w3⟩ := w2
    obtain ⟨v1, t1, ρ', x1, x2, x3⟩ := x_rd_okL aE w3 gn hq
    exact va_lald hx hb aK aP k.toNat t0 w1 ht v1 hd (kk ρ' ad H locs ls _ (e1.tr x1) e2 (hr0.grow x1 x2) ⟨lv, h1, h2.mono x1 (x_ext.rf _), x_val.mkL t1 x3, h5.mono x1 (x_ext.rf _)⟩)
  · obtain ⟨cA, f, rfl, ⟨t0, ht⟩, w3⟩ := w2
    obtain ⟨v1, t1, ρ', x1, x2, x3⟩ := x_rd_okI aE w3 gn hq
    exact va_zald hx hb aK aP k.toNat t0 w1 ht v1 hd (kk ρ' ad H locs ls _ (e1.tr x1) e2 (hr0.grow x1 x2) ⟨lv, h1, h2.mono x1 (x_ext.rf _), x_val.mkI t1 x3, h5.mono x1 (x_ext.rf _)⟩)
theorem x_w_ast {v i : xV} {b : Option Nat} {k : Int} {r : List xV} {a a' : xA} {ty : Nat} {ins : Instr} (hx : p.tables.exec = Jvm.exec) (hb : c.code = cb) (hd : decode cb pc = .ok (ins, 1)) (hi : i.1 = 0) (hty : a.1 = ty) (ho : h[k.toNat]? = some (.inl a))
    (hcase : (ins = .iastore ∧ ty = 0 ∧ v.1 = 0 ∧ x_wr 0 E a i v = some a') ∨ (ins = .lastore ∧ ty = 1 ∧ v.1 = 1 ∧ x_wr 1 E a i v = some a') ∨ (ins = .bastore ∧ ty = 2 ∧ v.1 = 0 ∧ x_fit E 3 v = true ∧ x_wr 0 E a i v = some a'))
    (kk : x_OKs p l e R s mid args below meth c Q D cl B0 sc nL ρ0 ad0 (pc + 1) L r cc ss (h.set k.toNat (.inl a')) E) : x_OKs p l e R s mid args below meth c Q D cl B0 sc nL ρ0 ad0 pc L (v :: i :: (3, b, k) :: r) cc ss h E := by
  intro ρ ad H locs ls stc e1 e2 hr hfr
  obtain ⟨lv, h1, h2, h3⟩ := hfr
  obtain ⟨z, zs, rfl, gz, h4⟩ := h3.cons
  obtain ⟨x, xs0, rfl, gx, h5⟩ := h4.cons
  obtain ⟨y, ys, rfl, g1, h6⟩ := h5.cons
  obtain ⟨ad1, rfl, ga⟩ := g1
  obtain ⟨n, rfl, gn⟩ := gx.int hi
  obtain ⟨ws, tys, aK, aP, aD, aS, aH, aE⟩ := hr
  obtain ⟨ev, w1, w2⟩ := aH.at ho ga
  obtain ⟨t, nn, lo, hi', ov⟩ := a
  have hty : t = ty := hty
  subst hty
  rcases hcase with ⟨rfl, rfl, hv, hq⟩ | ⟨rfl, rfl, hv, hq⟩ | ⟨rfl, rfl, hv, hfz, hq⟩
  · obtain ⟨cA, f, rfl, ⟨t0, ht⟩, w3⟩ := w2
    obtain ⟨m, rfl, gm⟩ := gz.int hv
    obtain ⟨v1, q1, q2, q3⟩ := x_wr_ok aE (g' := fun j => (upd f n.toNatClampNeg m j).toInt) w3 gn gm (by simp [upd]) (fun j hj => by simp [upd, hj]) (fun j hj => by rw [if_neg (by decide)]; exact x_i32 _) hq
    obtain ⟨t', n', lo2, hi2, ov2⟩ := a'
    have q1 : t' = 0 := q1
    have q2 : n' = nn := q2
    subst q1
    subst q2
    exact va_iast hx hb aK aP aD aS k.toNat t0 w1 ht v1 hd (fun H1 locs1 hP hD hS => kk ρ ad H1 locs1 ls _ e1 e2 ⟨_, tys, aK, hP, hD, hS, aH.set w1 ⟨cA, _, rfl, ⟨t0, ht⟩, q3⟩, aE⟩ ⟨lv, h1, h2, h6⟩)
  · obtain ⟨cA, f, rfl, ⟨t0, ht⟩, w3⟩ := w2
    obtain ⟨m, rfl, gm⟩ := gz.long hv
    obtain ⟨v1, q1, q2, q3⟩ := x_wr_ok aE (g' := fun j => (vp_updL f n.toNatClampNeg m j).toInt) w3 gn gm (by simp [vp_updL]) (fun j hj => by simp [vp_updL, hj]) (fun j hj => by rw [if_pos rfl]; exact x_i64 _) hq
    obtain ⟨t', n', lo2, hi2, ov2⟩ := a'
    have q1 : t' = 1 := q1
    have q2 : n' = nn := q2
    subst q1
    subst q2
    exact va_last hx hb aK aP aD aS k.toNat t0 w1 ht v1 hd (fun H1 locs1 hP hD hS => kk ρ ad H1 locs1 ls _ e1 e2 ⟨_, tys, aK, hP, hD, hS, aH.set w1 ⟨cA, _, rfl, ⟨t0, ht⟩, q3⟩, aE⟩ ⟨lv, h1, h2, h6⟩)
  · obtain ⟨cA, f, rfl, ⟨t0, ht⟩, w3⟩ := w2
    have hfit := x_fit_ok (kd := 3) aE gz hfz (show x_tyk 3 .boolean from rfl)
    obtain ⟨m, rfl, gm⟩ := gz.int hv
    have hnar : vp_nar .boolean m = m := by
      unfold vp_nar
      rw [hfit.1]
    obtain ⟨v1, q1, q2, q3⟩ := x_wr_ok aE (g' := fun j => (upd f n.toNatClampNeg (vp_nar .boolean m) j).toInt) w3 gn gm (by simp [upd, hnar]) (fun j hj => by simp [upd, hj]) (fun j hj => by rw [if_neg (by decide)]; exact x_i32 _) hq
    obtain ⟨t', n', lo2, hi2, ov2⟩ := a'
    have q1 : t' = 2 := q1
    have q2 : n' = nn := q2
    subst q1
    subst q2
    exact va_zast hx hb aK aP aD aS k.toNat t0 w1 ht v1 hd (fun H1 locs1 hP hD hS => kk ρ ad H1 locs1 ls _ e1 e2 ⟨_, tys, aK, hP, hD, hS, aH.set w1 ⟨cA, _, rfl, ⟨t0, ht⟩, q3⟩, aE⟩ ⟨lv, h1, h2, h6⟩)
theorem x_w_alen {b : Option Nat} {k : Int} {r : List xV} {a : xA} (hx : p.tables.exec = Jvm.exec) (hb : c.code = cb) (hd : decode cb pc = .ok (.arraylength, 1)) (ho : h[k.toNat]? = some (.inl a)) (ha : a.1 < 3)
    (kk : x_OKs p l e R s mid args below meth c Q D cl B0 sc nL ρ0 ad0 (pc + 1) L ((0, none, (Int32.ofNat a.2.1).toInt) :: r) cc ss h E) : x_OKs p l e R s mid args below meth c Q D cl B0 sc nL ρ0 ad0 pc L ((3, b, k) :: r) cc ss h E := by
  intro ρ ad H locs ls stc e1 e2 hr hfr
  obtain ⟨lv, h1, h2, h3⟩ := hfr
  obtain ⟨y, ys, rfl, g1, h4⟩ := h3.cons
  obtain ⟨ad1, rfl, ga⟩ := g1
  have hr0 := hr
  obtain ⟨ws, tys, aK, aP, aD, aS, aH, aE⟩ := hr
  obtain ⟨ev, w1, w2⟩ := aH.at ho ga
  obtain ⟨t, nn, lo, hi', ov⟩ := a
  have fin : W p l e R s mid args below meth c H locs cc ss Q (F0 mid (pc + 1) ls (.int (Int32.ofNat nn) :: ys)) := kk ρ ad H locs ls _ e1 e2 hr0 ⟨lv, h1, h2, ⟨_, rfl, rfl⟩, h4⟩
  match t, ha, w2 with
  | 0, _, w2 =>
    obtain ⟨cA, f, rfl, ⟨t0, ht⟩, w3⟩ := w2
    exact va_alen hx hb aK aP k.toNat t0 w1 ht rfl hd fin
  | 1, _, w2 =>
    obtain ⟨cA, f, rfl, ⟨t0, ht⟩, w3⟩ := w2
    exact va_alen hx hb aK aP k.toNat t0 w1 ht rfl hd fin
  | 2, _, w2 =>
    obtain ⟨cA, f, rfl, ⟨t0, ht⟩, w3⟩ := w2
    exact va_alen hx hb aK aP k.toNat t0 w1 ht rfl hd fin
  | t + 3, ha, _ => exact absurd (show t + 3 < 3 from ha) (by omega)
theorem x_n32 {n : Int} (h0 : 0 ≤ n) (h1 : n ≤ 60000000) {m : Int32} (hm : m.toInt = n) : ¬ m < 0 ∧ m.toNatClampNeg = n.toNat := by
  refine ⟨fun q => ?_, ?_⟩
  · have := Int32.lt_iff_toInt_lt.mp q
    rw [hm] at this
    have z : (0 : Int32).toInt = 0 := rfl
    omega
  · show m.toInt.toNat = n.toNat
    rw [hm]
theorem x_arr0 {ρ : List Int} {n : Nat} {g : Nat → Int} (hg : ∀ j, g j = 0) : x_arr ρ n 0 0 [] g := fun j _ => by
  show (0 : Int) ≤ g j ∧ g j ≤ 0
  rw [hg j]
  exact ⟨Int.le_refl _, Int.le_refl _⟩
theorem x_w_newa {n : Int} {r : List xV} {ty : Nat} {at_ : ArrayType} (hx : p.tables.exec = Jvm.exec) (hb : c.code = cb) (hts : ∀ w ∈ x_tbl, w.before args s = true) (hI : Cond.arrayClass .int ∈ x_tbl) (hJ : Cond.arrayClass .long ∈ x_tbl) (hZ : Cond.arrayClass .boolean ∈ x_tbl) (hB : B0 ≤ s.heap.size)
    (hd : decode cb pc = .ok (.newarray at_, 2)) (hcase : at_ = .int ∧ ty = 0 ∨ at_ = .long ∧ ty = 1 ∨ at_ = .boolean ∧ ty = 2) (hn0 : 0 ≤ n) (hn1 : n ≤ 60000000) (hc : cc + 1 ≤ R.cells) (hs : ss + n.toNat ≤ R.slots)
    (kk : x_OKs p l e R s mid args below meth c Q D cl B0 sc nL ρ0 ad0 (pc + 2) L ((3, none, (h.length : Int)) :: r) (cc + 1) (ss + n.toNat) (h ++ [.inl (ty, n.toNat, 0, 0, [])]) E) : x_OKs p l e R s mid args below meth c Q D cl B0 sc nL ρ0 ad0 pc L ((0, none, n) :: r) cc ss h E := by
  intro ρ ad H locs ls stc e1 e2 hr hfr
  obtain ⟨lv, h1, h2, h3⟩ := hfr
  obtain ⟨y, ys, rfl, g1, h4⟩ := h3.cons
  obtain ⟨m, rfl, gm⟩ := g1
  have gm : m.toInt = n := gm
  obtain ⟨m1, m2⟩ := x_n32 hn0 hn1 gm
  obtain ⟨ws, tys, aK, aP, aD, aS, aH, aE⟩ := hr
  have hA : ∀ q, s.heap.size ≤ q → (fun q : Nat => B0 ≤ q) q := fun q z => Nat.le_trans hB z
  have go : ∀ (a0 : vp_A) (ty0 : FieldType), newarray.typeOf at_ = ty0 → Cond.arrayClass ty0 ∈ x_tbl → (∀ cA : ClassId, vp_cell cA a0 = arrV cA n.toNat (fun _ => defaultValue ty0)) → n.toNat * componentBytes ty0 ≤ 536870912 →
      (∀ (cA : ClassId) (q : Nat) (tys' : List (ClassId × FieldType)), tys'[tys.length]? = some (cA, ty0) → x_cell ρ (ad ++ [q]) sc tys' (.inl (ty, n.toNat, 0, 0, [])) (.inl (cA, a0))) → W p l e R s mid args below meth c H locs cc ss Q (F0 mid pc ls (.int m :: ys)) := by
    intro a0 ty0 hty hac hcell hby hx9
    refine va_newa hx hb (by rw [hty]; exact hts _ hac) hty aK aP aD aS hA hcell m1 m2 hby hc hs hd (fun q cA H1 hK hP hD hS => ?_)
    have hK' : x_ext tys (tys ++ [(cA, ty0)]) := x_ext.app _ _
    refine kk ρ (ad ++ [q]) H1 locs ls _ e1 (e2.tr (x_ext.app _ _)) ⟨_, _, hK, hP, hD, hS, (aH.mono (x_ext.rf _) hK').push (hx9 cA q _ (by rw [List.getElem?_append_right (Nat.le_refl _)]; simp)), aE⟩ ⟨lv, h1, h2.mono (x_ext.rf _) (x_ext.app _ _), ⟨q, rfl, ?_⟩, h4.mono (x_ext.rf _) (x_ext.app _ _)⟩
    show (ad ++ [q])[((h.length : Int)).toNat]? = some q
    rw [Int.toNat_natCast, ← aH.adlen, List.getElem?_append_right (Nat.le_refl _)]
    simp
  rcases hcase with ⟨rfl, rfl⟩ | ⟨rfl, rfl⟩ | ⟨rfl, rfl⟩
  · exact go (n.toNat, .inl (fun _ => 0)) .int rfl hI (fun _ => rfl) (by show n.toNat * 4 ≤ _; omega) (fun cA q tys' ht => ⟨cA, _, rfl, ⟨_, ht⟩, x_arr0 (fun _ => rfl)⟩)
  · exact go (n.toNat, .inr (.inl (fun _ => 0))) .long rfl hJ (fun _ => rfl) (by show n.toNat * 8 ≤ _; omega) (fun cA q tys' ht => ⟨cA, _, rfl, ⟨_, ht⟩, x_arr0 (fun _ => rfl)⟩)
  · exact go (n.toNat, .inl (fun _ => 0)) .boolean rfl hZ (fun _ => rfl) (by show n.toNat * 1 ≤ _; omega) (fun cA q tys' ht => ⟨cA, _, rfl, ⟨_, ht⟩, x_arr0 (fun _ => rfl)⟩)
theorem x_dflt_ok {k : Nat} {ty : FieldType} (h : x_tyk k ty) {ρ : List Int} {ad : List Nat} {sc : Nat} : x_val ρ ad sc (x_dflt k) (defaultValue ty) := by
  match k, h with
  | 0, h => cases (show ty = .int from h); exact ⟨0, rfl, rfl⟩
  | 1, h => cases (show ty = .long from h); exact ⟨0, rfl, rfl⟩
  | 2, h =>
    rcases (show (∃ n, ty = .object n) ∨ ∃ t, ty = .array t from h) with ⟨n, rfl⟩ | ⟨n, rfl⟩ <;> exact rfl
  | 3, h => cases (show ty = .boolean from h); exact ⟨0, rfl, rfl⟩
  | _ + 4, h => exact h.elim
theorem x_dflts {ρ : List Int} {ad : List Nat} {sc : Nat} (ty : Nat → FieldType) : ∀ (l : List Nat) (n : Nat), (∀ (k kd : Nat), l[k]? = some kd → x_tyk (kd % 10) (ty (n + k))) → x_vals ρ ad sc (l.map (fun k => x_dflt (k % 10))) ((List.range' n l.length).map (fun j => defaultValue (ty j)))
  | [], _, _ => trivial
  | a :: l, n, h => by
    show x_vals ρ ad sc (x_dflt (a % 10) :: l.map (fun k => x_dflt (k % 10))) (((List.range' n (l.length + 1)).map (fun j => defaultValue (ty j))))
    rw [List.range'_succ, List.map_cons]
    refine ⟨x_dflt_ok (h 0 a rfl), x_dflts ty l (n + 1) (fun k kd hk => ?_)⟩
    have := h (k + 1) kd (by simpa using hk)
    rw [show n + 1 + k = n + (k + 1) by omega]
    exact this
theorem x_w_new {idx ci : Nat} {z : Int} (hx : p.tables.exec = Jvm.exec) (hb : c.code = cb) (hown : s.vm.findClass own = some mid.cls) (hts : ∀ w ∈ x_tbl, w.before args s = true) (hC : ∀ (ci : Nat) (q : vw_C), cl[ci]? = some q → x_okc P ci q) (hp : x_okp cl P own idx (9, ci, z)) (hB : B0 ≤ s.heap.size)
    (hd : decode cb pc = .ok (.new idx, 3)) (hc : cc + 1 ≤ R.cells) (hs : ss + (x_cls P ci).length ≤ R.slots)
    (kk : x_OKs p l e R s mid args below meth c Q D cl B0 sc nL ρ0 ad0 (pc + 3) L ((3, none, (h.length : Int)) :: st) (cc + 1) (ss + (x_cls P ci).length) (h ++ [.inr (ci, (x_cls P ci).map (fun k => x_dflt (k % 10)))]) E) : x_OKs p l e R s mid args below meth c Q D cl B0 sc nL ρ0 ad0 pc L st cc ss h E := by
  intro ρ ad H locs ls stc e1 e2 hr hfr
  obtain ⟨lv, h1, h2, h3⟩ := hfr
  obtain ⟨ws, tys, aK, aP, aD, aS, aH, aE⟩ := hr
  obtain ⟨⟨C, T, N⟩, p1, p2, p3, p4⟩ := hp
  obtain ⟨c1, c2, c3, ty, c4, c5⟩ := hC ci (C, T, N) p1
  have c2 : N = (x_cls P ci).length := c2
  have hA : ∀ q, s.heap.size ≤ q → (fun q : Nat => B0 ≤ q) q := fun q z => Nat.le_trans hB z
  subst c2
  refine va_new (fs := (List.range' 0 (x_cls P ci).length).map (fun j => defaultValue (ty j))) hx hb hts c1 ty c4 hown (hts _ p2) (hts _ p3) (hts _ p4) aK aP aD aS hA p1 (fun j hj => ?_) hc hs hd (fun q H1 hP hD hS => ?_)
  · unfold vp_V
    rw [List.getD_eq_getElem?_getD, List.getElem?_map, List.getElem?_range' (by omega)]
    simp
  · refine kk ρ (ad ++ [q]) H1 locs ls _ e1 (e2.tr (x_ext.app _ _)) ⟨_, tys, aK, hP, hD, hS, aH.push ⟨_, rfl, x_dflts ty (x_cls P ci) 0 (fun k kd hk => by rw [Nat.zero_add]; exact (c5 k kd hk).1)⟩, aE⟩ ⟨lv, h1, h2.mono (x_ext.rf _) (x_ext.app _ _), ⟨q, rfl, ?_⟩, h3.mono (x_ext.rf _) (x_ext.app _ _)⟩
    show (ad ++ [q])[((h.length : Int)).toNat]? = some q
    rw [Int.toNat_natCast, ← aH.adlen, List.getElem?_append_right (Nat.le_refl _)]
    simp
end XC
end
section
/-! switches, the script, calls and ends -/
section XD
variable {p : Program} {l : Launch} {e : Env} {R : Room} {s : State} {mid : MethodId} {args : Array Value} {below : List Frame} {meth : Method} {c : Code} {Q : State → Prop} {D : va_G} {cl : List vw_C} {B0 sc nL : Nat} {ρ0 : List Int} {ad0 : List Nat}
  {pc : Nat} {L : List (Nat × xV)} {st : List xV} {cc ss : Nat} {h : List xC} {E : xE} {cb : ByteArray} {P : xP} {own : String}
theorem x_w_sw {v : xV} {r : List xV} {dflt lo hi : Int} {offs : Array Int} {len : Nat} (hx : p.tables.exec = Jvm.exec) (hb : c.code = cb) (hd : decode cb pc = .ok (.tableswitch dflt lo hi offs, len)) (hv : v.1 = 0) (h0 : 0 ≤ (pc : Int) + dflt) (hall : ∀ o ∈ offs.toList, 0 ≤ (pc : Int) + o) (hlen : (offs.toList.length : Int) = hi - lo + 1)
    (k1 : (x_iv E v).1 < lo → x_OKs p l e R s mid args below meth c Q D cl B0 sc nL ρ0 ad0 ((pc : Int) + dflt).toNat L r cc ss h (x_cap E v (-x_M) (lo - 1))) (k2 : hi < (x_iv E v).2 → x_OKs p l e R s mid args below meth c Q D cl B0 sc nL ρ0 ad0 ((pc : Int) + dflt).toNat L r cc ss h (x_cap E v (hi + 1) x_M))
    (k3 : ∀ (k : Nat) (off : Int), offs.toList[k]? = some off → x_can .eq (x_iv E v) (lo + k, lo + k) = true → x_OKs p l e R s mid args below meth c Q D cl B0 sc nL ρ0 ad0 ((pc : Int) + off).toNat L r cc ss h (x_cap E v (lo + k) (lo + k))) : x_OKs p l e R s mid args below meth c Q D cl B0 sc nL ρ0 ad0 pc L (v :: r) cc ss h E := by
  intro ρ ad H locs ls stc e1 e2 hr hfr
  obtain ⟨lv, h1, h2, h3⟩ := hfr
  obtain ⟨y, ys, rfl, g1, h4⟩ := h3.cons
  obtain ⟨n, rfl, gn⟩ := g1.int hv
  have hb1 := x_iv_ok hr.env gn
  have hM := x_b32 n
  by_cases hlo : n.toInt < lo
  · exact lv_tableOut hx hb hd (Or.inl hlo) (by omega) (k1 (by omega) ρ ad H locs ls ys e1 e2 (hr.grow (x_ext.rf _) (x_cap_ok hr.env gn hM.1 (by omega))) ⟨lv, h1, h2, h4⟩)
  by_cases hhi : hi < n.toInt
  · exact lv_tableOut hx hb hd (Or.inr hhi) (by omega) (k2 (by omega) ρ ad H locs ls ys e1 e2 (hr.grow (x_ext.rf _) (x_cap_ok hr.env gn (by omega) hM.2)) ⟨lv, h1, h2, h4⟩)
  have hk : (n.toInt - lo).toNat < offs.toList.length := by omega
  have he : offs.toList[(n.toInt - lo).toNat]? = some offs.toList[(n.toInt - lo).toNat] := List.getElem?_eq_getElem hk
  have hn : lo + ((n.toInt - lo).toNat : Int) = n.toInt := by omega
  have hoff := hall _ (List.mem_of_getElem? he)
  refine lv_tableIn hx hb hd hlo hhi (by rw [← Array.getElem?_toList]; exact he) (show (pc : Int) + _ = ((((pc : Int) + offs.toList[(n.toInt - lo).toNat]).toNat : Nat) : Int) by omega) ?_
  refine k3 _ _ he ?_ ρ ad H locs ls ys e1 e2 (hr.grow (x_ext.rf _) ?_) ⟨lv, h1, h2, h4⟩
  · simp only [x_can, Bool.and_eq_true, decide_eq_true_eq]
    omega
  · exact x_cap_ok hr.env gn (by omega) (by omega)
/-- the script: its length is symbol 6, its ints are symbols 0 to 5 -/
def x_Scr (B0 sc : Nat) (ρ0 : List Int) (s : State) : Prop := ∃ (Ln : Nat) (xs : Nat → Int32), va_X sc Ln xs s s.heap ∧ sc < s.heap.size ∧ ¬ B0 ≤ sc ∧ Ln ≤ 6 ∧ ρ0[6]? = some (Ln : Int) ∧ ∀ j : Nat, j < 6 → ρ0[j]? = some (xs j).toInt
theorem x_w_slen {b : Option Nat} {k : Int} {r : List xV} (hx : p.tables.exec = Jvm.exec) (hb : c.code = cb) (hd : decode cb pc = .ok (.arraylength, 1)) (hs : x_Scr B0 sc ρ0 s) (kk : x_OKs p l e R s mid args below meth c Q D cl B0 sc nL ρ0 ad0 (pc + 1) L ((0, some 6, 0) :: r) cc ss h E) : x_OKs p l e R s mid args below meth c Q D cl B0 sc nL ρ0 ad0 pc L ((4, b, k) :: r) cc ss h E := by
  intro ρ ad H locs ls stc e1 e2 hr hfr
  obtain ⟨lv, h1, h2, h3⟩ := hfr
  obtain ⟨y, ys, rfl, g1, h4⟩ := h3.cons
  have g1 : y = .ref sc := g1
  subst g1
  have hr0 := hr
  obtain ⟨ws, tys, aK, aP, aD, aS, aH, aE⟩ := hr
  obtain ⟨Ln, xs, s1, s2, s3, s4, s5, s6⟩ := hs
  refine va_slen hx hb s1 s2 s3 aS hd (kk ρ ad H locs ls _ e1 e2 hr0 ⟨lv, h1, h2, ⟨_, rfl, ?_⟩, h4⟩)
  refine ⟨Ln, e1.get s5, ?_⟩
  rw [show (Int32.ofNat Ln) = nI Ln from rfl, nI_toInt (by omega)]
  exact (Int.add_zero _).symm
theorem x_w_sld {i : xV} {b : Option Nat} {k : Int} {r : List xV} (hx : p.tables.exec = Jvm.exec) (hb : c.code = cb) (hd : decode cb pc = .ok (.iaload, 1)) (hs : x_Scr B0 sc ρ0 s) (hi : i.1 = 0) (hn : i.2.1 = none) (h0 : 0 ≤ i.2.2) (h6 : i.2.2 < 6) (hl : i.2.2 < (x_iv E (0, some 6, 0)).1)
    (kk : x_OKs p l e R s mid args below meth c Q D cl B0 sc nL ρ0 ad0 (pc + 1) L ((0, some i.2.2.toNat, 0) :: r) cc ss h E) : x_OKs p l e R s mid args below meth c Q D cl B0 sc nL ρ0 ad0 pc L (i :: (4, b, k) :: r) cc ss h E := by
  intro ρ ad H locs ls stc e1 e2 hr hfr
  obtain ⟨lv, h1, h2, h3⟩ := hfr
  obtain ⟨x, xs0, rfl, gx, h4⟩ := h3.cons
  obtain ⟨y, ys, rfl, g1, h5⟩ := h4.cons
  have g1 : y = .ref sc := g1
  subst g1
  obtain ⟨n, rfl, gn⟩ := gx.int hi
  rw [hn] at gn
  have gn : n.toInt = i.2.2 := gn
  have hr0 := hr
  obtain ⟨ws, tys, aK, aP, aD, aS, aH, aE⟩ := hr
  obtain ⟨Ln, xs, s1, s2, s3, s4, s5, s6⟩ := hs
  have hb6 := x_iv_ok aE (v := (0, some 6, 0)) (r := (Ln : Int)) ⟨Ln, e1.get s5, (Int.add_zero _).symm⟩
  obtain ⟨c1, c2, c3⟩ := x_clamp (i := n) (n := Ln) (by omega) (by omega)
  refine va_sld hx hb s1 s2 s3 aS c1 hd (kk ρ ad H locs ls _ e1 e2 hr0 ⟨lv, h1, h2, ⟨_, rfl, ?_⟩, h5⟩)
  rw [c2, gn]
  exact ⟨_, e1.get (s6 i.2.2.toNat (by omega)), (Int.add_zero _).symm⟩
theorem x_cats {ρ : List Int} {ad : List Nat} {sc : Nat} : ∀ {vs : List xV} {xs : List Value}, x_vals ρ ad sc vs xs → (xs.map fun v => v.category).sum = (vs.map x_cat).sum
  | [], [], _ => rfl
  | v :: vs, x :: xs, g => by
    rw [List.map_cons, List.map_cons, List.sum_cons, List.sum_cons, g.1.cat, x_cats g.2]
  | [], _ :: _, g => g.elim
  | _ :: _, [], g => g.elim
theorem x_w_oinit {idx : Nat} {b : Option Nat} {k : Int} {r : List xV} {z : Nat × Int} (hx : p.tables.exec = Jvm.exec) (hb : c.code = cb) (hml : c.maxLocals = nL) (hown : s.vm.findClass own = some mid.cls) (hts : ∀ w ∈ x_tbl, w.before args s = true) (hp : x_okp cl P own idx (5, z)) (hd : decode cb pc = .ok (.invokespecial idx, 3))
    (hR1 : 1 ≤ R.frames) (hR2 : 20 ≤ R.locals) (hc : (r.map x_cat).sum ≤ 8) (kk : x_OKs p l e R s mid args below meth c Q D cl B0 sc nL ρ0 ad0 (pc + 3) L r cc ss h E) : x_OKs p l e R s mid args below meth c Q D cl B0 sc nL ρ0 ad0 pc L ((3, b, k) :: r) cc ss h E := by
  intro ρ ad H locs ls stc e1 e2 hr hfr
  obtain ⟨lv, h1, h2, h3⟩ := hfr
  obtain ⟨y, ys, rfl, g1, h4⟩ := h3.cons
  obtain ⟨a, rfl, ga⟩ := g1
  obtain ⟨p1, p2, p3⟩ := hp
  have hc' := x_cats h4
  refine W.objInit hx hb hown (hts _ p1) (hts _ p2) (hts _ p3) rfl (by rw [hml]; exact h1.1) rfl hd hR1 ?_ ?_
  · show 2 * 0 + (ys.map fun v => v.category).sum + 12 ≤ R.locals
    omega
  · exact kk ρ ad H locs ls ys e1 e2 hr ⟨lv, h1, h2, h4⟩
theorem x_w_cpy {idx : Nat} {n dp sp : Int} {b1 b2 : Option Nat} {kd ks : Int} {r : List xV} {n0 n1 : Nat} {lo0 hi0 lo1 hi1 : Int} {z : Nat × Int} (hx : p.tables.exec = Jvm.exec) (hb : c.code = cb) (hml : c.maxLocals = nL) (hown : s.vm.findClass own = some mid.cls) (hts : ∀ w ∈ x_tbl, w.before args s = true) (hp : x_okp cl P own idx (10, z)) (hd : decode cb pc = .ok (.invokestatic idx, 3))
    (hR1 : 1 ≤ R.frames) (hR2 : 40 ≤ R.locals) (hs : h[ks.toNat]? = some (.inl (0, n0, lo0, hi0, []))) (hd1 : h[kd.toNat]? = some (.inl (0, n1, lo1, hi1, []))) (q1 : 0 ≤ n) (q2 : 0 ≤ dp) (q3 : 0 ≤ sp) (q4 : sp + n ≤ n0) (q5 : dp + n ≤ n1) (hc : (r.map x_cat).sum ≤ 8)
    (kk : x_OKs p l e R s mid args below meth c Q D cl B0 sc nL ρ0 ad0 (pc + 3) L r cc ss (h.set kd.toNat (.inl (0, n1, min lo0 lo1, max hi0 hi1, []))) E) : x_OKs p l e R s mid args below meth c Q D cl B0 sc nL ρ0 ad0 pc L ((0, none, n) :: (0, none, dp) :: (3, b1, kd) :: (0, none, sp) :: (3, b2, ks) :: r) cc ss h E := by
  intro ρ ad H locs ls stc e1 e2 hr hfr
  obtain ⟨lv, h1, h2, h3⟩ := hfr
  obtain ⟨y1, ys1, rfl, g1, h4⟩ := h3.cons
  obtain ⟨y2, ys2, rfl, g2, h5⟩ := h4.cons
  obtain ⟨y3, ys3, rfl, g3, h6⟩ := h5.cons
  obtain ⟨y4, ys4, rfl, g4, h7⟩ := h6.cons
  obtain ⟨y5, ys5, rfl, g5, h8⟩ := h7.cons
  obtain ⟨x1, rfl, k1⟩ := g1
  obtain ⟨x2, rfl, k2⟩ := g2
  obtain ⟨a1, rfl, k3⟩ := g3
  obtain ⟨x4, rfl, k4⟩ := g4
  obtain ⟨a0, rfl, k5⟩ := g5
  have k1 : x1.toInt = n := k1
  have k2 : x2.toInt = dp := k2
  have k4 : x4.toInt = sp := k4
  obtain ⟨ws, tys, aK, aP, aD, aS, aH, aE⟩ := hr
  obtain ⟨ev0, w0, v0⟩ := aH.at hs k5
  obtain ⟨ev1, w1, v1⟩ := aH.at hd1 k3
  obtain ⟨c0, f, rfl, ⟨t0, ht0⟩, f0⟩ := v0
  obtain ⟨c1, g, rfl, ⟨t1, ht1⟩, f1⟩ := v1
  obtain ⟨p1, p2, p3, p4⟩ := hp
  have nn : ∀ {m : Int32} {i : Int}, m.toInt = i → 0 ≤ i → ¬ m < 0 ∧ m.toNatClampNeg = i.toNat := by
    intro m i hm hi
    refine ⟨fun q => ?_, ?_⟩
    · have := Int32.lt_iff_toInt_lt.mp q
      rw [hm] at this
      have z : (0 : Int32).toInt = 0 := rfl
      omega
    · show m.toInt.toNat = i.toNat
      rw [hm]
  obtain ⟨m1, m2⟩ := nn k1 q1
  obtain ⟨m3, m4⟩ := nn k2 q2
  obtain ⟨m5, m6⟩ := nn k4 q3
  have hc' := x_cats h8
  refine va_copyi hx hb (by rw [hml]; exact h1.1.symm) hown (hts _ p1) (hts _ p2) (hts _ p3) (hts _ p4) aK aP aD aS ks.toNat kd.toNat t0 t1 w0 w1 ht0 ht1 rfl m5 m3 m1 (by rw [m6, m2]; show sp.toNat + n.toNat ≤ n0; omega) (by rw [m4, m2]; show dp.toNat + n.toNat ≤ n1; omega) (fun _ _ => rfl) hR1 ?_ hd (fun H1 locs1 hP hD hS => ?_)
  · have : nativeFrameWords "java/lang/System" "arraycopy" 5 = 7 := by decide
    rw [this]
    omega
  · refine kk ρ ad H1 locs1 ls ys5 e1 e2 ⟨_, tys, aK, hP, hD, hS, aH.set w1 ⟨c1, _, rfl, ⟨t1, ht1⟩, fun j hj => ?_⟩, aE⟩ ⟨lv, h1, h2, h8⟩
    show min lo0 lo1 ≤ (va_cpy f g x4.toNatClampNeg x2.toNatClampNeg x1.toNatClampNeg j).toInt ∧ (va_cpy f g x4.toNatClampNeg x2.toNatClampNeg x1.toNatClampNeg j).toInt ≤ max hi0 hi1
    unfold va_cpy
    split
    next hh =>
      have z : lo0 ≤ (f (x4.toNatClampNeg + (j - x2.toNatClampNeg))).toInt ∧ (f (x4.toNatClampNeg + (j - x2.toNatClampNeg))).toInt ≤ hi0 := f0 _ (show x4.toNatClampNeg + (j - x2.toNatClampNeg) < n0 by rw [m6]; rw [m4, m2] at hh; rw [m4]; omega)
      omega
    next =>
      have z : lo1 ≤ (g j).toInt ∧ (g j).toInt ≤ hi1 := f1 j hj
      omega
theorem x_w_mm {v w : xV} {r : List xV} (f : xE → xV → xV → xV × xE) (op : Int32 → Int32 → Int32) (hf : ∀ {ρ : List Int} {a b : Int32}, x_env ρ E → x_ev ρ v.2.1 v.2.2 a.toInt → x_ev ρ w.2.1 w.2.2 b.toInt → x_resI ρ (f E v w) (op a b))
    (row : ∀ {x y : Int32} {H : Heap} {locs : List Loc} {ls : Array Slot} {rest : List Value}, ls.size = nL → (rest.map fun v => v.category).sum ≤ 8 → W p l e R s mid args below meth c H locs cc ss Q (F0 mid (pc + 3) ls (.int (op x y) :: rest)) → W p l e R s mid args below meth c H locs cc ss Q (F0 mid pc ls (.int y :: .int x :: rest)))
    (hv : v.1 = 0) (hw : w.1 = 0) (hc : (r.map x_cat).sum ≤ 8) (k : x_OKs p l e R s mid args below meth c Q D cl B0 sc nL ρ0 ad0 (pc + 3) L ((f E v w).1 :: r) cc ss h (f E v w).2) : x_OKs p l e R s mid args below meth c Q D cl B0 sc nL ρ0 ad0 pc L (w :: v :: r) cc ss h E := by
  intro ρ ad H locs ls stc e1 e2 hr hfr
  obtain ⟨lv, h1, h2, h3⟩ := hfr
  obtain ⟨y, ys, rfl, g1, h4⟩ := h3.cons
  obtain ⟨x, zs, rfl, g2, h5⟩ := h4.cons
  obtain ⟨b, rfl, gb⟩ := g1.int hw
  obtain ⟨a, rfl, ga⟩ := g2.int hv
  obtain ⟨t0, ρ', x1, x2, x3⟩ := hf hr.env ga gb
  exact row h1.1 (by rw [x_cats h5]; exact hc) (k ρ' ad H locs ls _ (e1.tr x1) e2 (hr.grow x1 x2) ⟨lv, h1, h2.mono x1 (x_ext.rf _), x_val.mkI t0 x3, h5.mono x1 (x_ext.rf _)⟩)
/-- what a call may count on, and what it gives back -/
def x_B (D : va_G) (cl : List vw_C) (B0 sc : Nat) (ρ : List Int) (ad : List Nat) (h : List xC) (U : State) : Prop := ∃ (ws : va_W) (tys : List (ClassId × FieldType)), va_K D cl tys U ∧ va_P D cl ws U.heap ∧ va_D (fun q : Nat => B0 ≤ q) ws ∧ x_heap ρ ad sc tys h ws
def x_rv (ρ : List Int) (ad : List Nat) (sc : Nat) : Option xV → Option Value → Prop
  | none, none => True
  | some v, some x => x_val ρ ad sc v x
  | _, _ => False
def x_Qc (P : xP) (D : va_G) (cl : List vw_C) (B0 sc n : Nat) (f : xF) (fs : List xF) (ρ : List Int) (ad : List Nat) : Array Value → State → Outcome → State → Prop := fun _ st o t =>
  (∃ (n' : Nat) (vo : Option xV) (xo : Option Value) (ρ' : List Int) (ad' : List Nat) (h' : List xC) (E' : xE), n' < n ∧ o = .returned xo ∧ x_rv ρ' ad' sc vo xo ∧ x_ext ρ ρ' ∧ x_ext ad ad' ∧ x_env ρ' E' ∧ x_B D cl B0 sc ρ' ad' h' t ∧
    x_run P n' ((f.1, f.2.1, f.2.2.1, vo.toList ++ f.2.2.2.1, f.2.2.2.2) :: fs, h', E') = true) ∧ va_F (fun q : Nat => B0 ≤ q) st t
theorem x_go_call {n mc ms : Nat} {f : xF} {fs : List xF} {ρ : List Int} {ad : List Nat} {H : Heap} {locs : List Loc} {ls : Array Slot} {st0 rest : List Value} {av : Array Value} (hrun : va_Run p l e R s mid args below meth c H locs cc ss mc ms (F0 mid pc ls st0) rest (x_Qc P D cl B0 sc n f fs ρ ad av) (fun q : Nat => B0 ≤ q)) (hS : va_S (fun q : Nat => B0 ≤ q) s.heap H locs)
    (kk : ∀ (n' : Nat) (vo : Option xV) (xo : Option Value) (ρ' : List Int) (ad' : List Nat) (h' : List xC) (E' : xE) (H1 : Heap) (locs1 : List Loc), n' < n → x_rv ρ' ad' sc vo xo → x_ext ρ ρ' → x_ext ad ad' → x_rel D cl B0 sc s ρ' ad' h' E' H1 locs1 →
      x_run P n' ((f.1, f.2.1, f.2.2.1, vo.toList ++ f.2.2.2.1, f.2.2.2.2) :: fs, h', E') = true → W p l e R s mid args below meth c H1 locs1 (cc + mc) (ss + ms) Q (F0 mid (pc + 3) ls (xo.toList ++ rest))) : W p l e R s mid args below meth c H locs cc ss Q (F0 mid pc ls st0) := by
  intro T hT X
  obtain ⟨v, st₀, t, T', Lc, h0, X', hL, e1, e2, ⟨⟨n', vo, xo, ρ', ad', h', E', q1, q2, q3, q4, q5, q6, ⟨ws, tys, r1, r2, r3, r4⟩, q8⟩, hz, hk⟩, stp⟩ := hrun T hT X
  cases q2
  rw [h0] at hz hk
  have hvm : s.vm.Alike t.vm := by rw [← e2]; exact X'.warmed.alike
  have hS1 : va_S (fun q : Nat => B0 ≤ q) s.heap T'.heap (locs ++ Lc) := ⟨Nat.le_trans hS.1 (by rw [e1]; exact hz), fun q h1 h2 => by rw [e1, hk q (Nat.lt_of_lt_of_le h1 hS.1) h2]; exact hS.2.1 q h1 h2, fun q hq => by
      rcases List.mem_append.mp hq with h | h
      · exact hS.2.2 q h
      · exact hL q h⟩
  obtain ⟨t2, a1, b1⟩ := kk n' vo v ρ' ad' h' E' T'.heap (locs ++ Lc) q1 q3 q4 q5 ⟨ws, tys, va_K.moved hvm.symm r1, by rw [e1]; exact r2, r3, hS1, r4, q6⟩ q8 T' rfl X'
  exact ⟨t2, stp t2 a1, b1⟩
end XD
/-- a frame's surroundings -/
def x_Ctx (P : xP) (B0 : Nat) (p : Program) (R : Room) (s : State) (mid : MethodId) (args : Array Value) (meth : Method) (c : Code) (m d : Nat) : Prop :=
  p.tables.exec = Jvm.exec ∧ c.code = x_by P m ∧ meth.sig.returnType = x_rt P m ∧ c.maxLocals = x_maxL P m ∧ s.vm.findClass (x_nm P m).cls = some mid.cls ∧ (∀ w ∈ x_tbl, w.before args s = true) ∧ (∀ w ∈ x_nest, va_Nw w s) ∧ meth.locks = false ∧ ((x_nm P m).name = "<init>" → meth.name = "<init>") ∧ B0 ≤ s.heap.size ∧
  50 - d ≤ R.frames ∧ 100 * (50 - d) ≤ R.locals ∧ x_mc P m ≤ R.cells ∧ x_ms P m ≤ R.slots
def x_isRet (i : Instr) : Prop := i = .ireturn ∨ i = .lreturn ∨ i = .return_
/-- what is said of the runs of n steps -/
def x_Snd (P : xP) (D : va_G) (cl : List vw_C) (B0 sc : Nat) (l : Launch) (n : Nat) : Prop :=
  ∀ (m pc : Nat) (L : List (Nat × xV)) (st : List xV) (cc ss : Nat) (fs : List xF) (h : List xC) (E : xE), x_run P n ((m, pc, L, st, cc, ss) :: fs, h, E) = true →
  ∀ (p : Program) (e : Env) (R : Room) (s : State) (mid : MethodId) (args : Array Value) (below : List Frame) (meth : Method) (c : Code) (Q : State → Prop) (ρ0 : List Int) (ad0 : List Nat), x_Ctx P B0 p R s mid args meth c m fs.length → fs.length ≤ 40 → (m = 0 → x_Scr B0 sc ρ0 s) →
  (∀ (n' pc : Nat) (L : List (Nat × xV)) (st : List xV) (cc ss : Nat) (h : List xC) (E : xE) (i : Instr) (len : Nat), n' ≤ n → x_code P m pc = some (i, len) → x_isRet i → x_run P n' ((m, pc, L, st, cc, ss) :: fs, h, E) = true → x_OKs p l e R s mid args below meth c Q D cl B0 sc (x_maxL P m) ρ0 ad0 pc L st cc ss h E) →
  x_OKs p l e R s mid args below meth c Q D cl B0 sc (x_maxL P m) ρ0 ad0 pc L st cc ss h E
theorem x_if_ok {b : Bool} {r : Option (List xS)} {lst : List xS} (h : x_if b r = some lst) : b = true ∧ r = some lst := by
  cases b with
  | false => cases h
  | true => exact ⟨rfl, h⟩
theorem x_blind {D : va_G} {cl : List vw_C} {B0 sc : Nat} {ρ : List Int} {ad : List Nat} {h : List xC} {av : List Value} : FrameBlind (va_Pc av (fun U => B0 ≤ U.heap.size ∧ (∀ w ∈ x_nest, va_Nw w U) ∧ x_B D cl B0 sc ρ ad h U)) := by
  intro a U g mk q
  obtain ⟨q0, q1, q2, ws, tys, r1, r2, r3, r4⟩ := q
  refine ⟨q0, q1, fun w hw => ?_, ws, tys, va_K.moved (u := U) (U := U.calling g mk a) (Vm.Alike.refl U.vm) r1, r2, r3, r4⟩
  have hn : x_isNest w = true := (List.mem_filter.mp hw).2
  have ht : w.onTables = true := by cases w <;> first | rfl | cases hn
  exact va_Nw.same (u := U) (U := U.calling g mk a) ht rfl (q2 w hw)
theorem x_nest_warm {s U : State} (hW : s.WarmedH U.vm) (h : ∀ w ∈ x_nest, va_Nw w s) : ∀ w ∈ x_nest, va_Nw w U := by
  intro w hw
  have hn : x_isNest w = true := (List.mem_filter.mp hw).2
  have := h w hw
  revert this
  cases w <;> first | (intro hz; exact va_Nw.warmM hW hz) | cases hn
/-- a callee's contract, out of its runs -/
theorem x_met {P : xP} {D : va_G} {cl : List vw_C} {B0 sc : Nat} {l : Launch} {n j d : Nat} {f : xF} {fs : List xF} {h : List xC} {E : xE} {as : List xV} {av : List Value} {ρ : List Int} {ad : List Nat} (hOK : x_OK cl P) (hS : x_Snd P D cl B0 sc l n) (hm : x_okm P j) (hd : fs.length = d) (hd40 : d < 40)
    (hrun : x_run P n ((j, 0, x_args 0 as, [], 0, 0) :: f :: fs, h, E) = true) (hav : x_vals ρ ad sc as av) (hE : x_env ρ E) (hfit : (as.map x_cat).sum ≤ x_maxL P j) :
    Met l (x_nm P j) (Cond.code (x_nm P j) (x_by P j) (x_maxL P j) (x_rt P j) :: x_tbl) { frames := 50 - (d + 1), cells := x_mc P j, slots := x_ms P j, locals := 100 * (50 - (d + 1)) }
      (va_Pc av (fun U => B0 ≤ U.heap.size ∧ (∀ w ∈ x_nest, va_Nw w U) ∧ x_B D cl B0 sc ρ ad h U)) (x_Qc P D cl B0 sc n f fs ρ ad) (x_mc P j) (x_ms P j) (fun q : Nat => B0 ≤ q) := by
  obtain ⟨m1, m2, m3, m4, m5, m6⟩ := hm
  refine Met.ofW (cc := x_by P j) (maxL := x_maxL P j) (ret := x_rt P j) m3 rfl ?_
  intro p e s mid args below meth c s₁ B hml hv
  obtain ⟨rfl, hB0, hnest, ws, tys, r1, r2, r3, r4⟩ := hv
  have hlocks := B.notSynchronized
  have hts : ∀ w ∈ x_tbl, w.before av.toArray s = true := fun w hw => atoms_spec (ws := Cond.code (x_nm P j) (x_by P j) (x_maxL P j) (x_rt P j) :: x_tbl) B.pre w (List.mem_cons_of_mem _ hw)
  have hctx : x_Ctx P B0 p (headSpec (Cond.code (x_nm P j) (x_by P j) (x_maxL P j) (x_rt P j) :: x_tbl) { frames := 50 - (d + 1), cells := x_mc P j, slots := x_ms P j, locals := 100 * (50 - (d + 1)) }).room s mid av.toArray meth c j (f :: fs).length :=
    ⟨B.exec, B.bytes, B.returns, hml, findClass_of_methodNamed B.named, hts, hnest, hlocks, fun z => (name_of_methodNamed B.named B.method).1.trans z, hB0, by rw [List.length_cons, hd]; exact Nat.le_refl _, by rw [List.length_cons, hd]; exact Nat.le_refl _, Nat.le_refl _, Nat.le_refl _⟩
  rw [lg_entry_eq]
  have hsl : ∀ (vs : List xV) (xs : List Value), x_vals ρ ad sc vs xs → (lg_sl xs).length = (vs.map x_cat).sum := by
    intro vs
    induction vs with
    | nil => intro xs g; rw [g.nil]; rfl
    | cons v vs ih =>
      intro xs g
      obtain ⟨x, ys, rfl, g1, g2⟩ := g.cons
      have hcat := g1.cat
      rw [List.map_cons, List.sum_cons, ← ih ys g2, ← hcat]
      rcases lv_cat x with hc | hc
      · simp [lg_sl, hc]; omega
      · simp [lg_sl, hc]; omega
  have hl := lv_entry av (n := x_maxL P j) (by rw [hsl as av hav]; exact hfit)
  refine hS j 0 (x_args 0 as) [] 0 0 (f :: fs) h E hrun p e _ s mid av.toArray below meth c _ ρ ad hctx (by rw [List.length_cons]; omega) (fun z => absurd z m6) ?_ ρ ad s.heap [] _ [] (x_ext.rf _) (x_ext.rf _) ⟨ws, tys, r1, r2, r3, va_S.rf, r4, hE⟩ ⟨_, hl, hav.args 0, trivial⟩
  -- the method's end
  intro n' pc L st cc ss h' E' i len hn' hcode hret hrun'
  obtain ⟨k, rfl⟩ : ∃ k, n' = k + 1 := by
    cases n' with
    | zero => cases hrun'
    | succ k => exact ⟨k, rfl⟩
  obtain ⟨lst, hstep, hall⟩ := x_run_ok hrun'
  have hstep : x_ins P j pc L st cc ss (f :: fs) h' E' i len = some lst := by
    have : x_step P ((j, pc, L, st, cc, ss) :: f :: fs, h', E') = x_ins P j pc L st cc ss (f :: fs) h' E' i len := by
      simp only [x_step, hcode]
    rw [← this]
    exact hstep
  have hdec := hOK.1 j pc i len hcode
  obtain ⟨fm, fpc, fL, fst, fcc, fss⟩ := f
  intro ρ' ad' H locs ls stc e1 e2 hr hfr
  obtain ⟨lv, h1, h2, h3⟩ := hfr
  have hE' := hr.env
  obtain ⟨ws', tys', aK, aP, aD, aS, aH, aE⟩ := hr
  rcases hret with rfl | rfl | rfl
  · obtain ⟨b1, b2⟩ := x_if_ok (show x_if (len == 1) (x_ret P j st cc ss ((fm, fpc, fL, fst, fcc, fss) :: fs) h' E' 0) = some lst from hstep)
    have b1 : len = 1 := by simpa using b1
    subst b1
    cases st with
    | nil => cases b2
    | cons v r =>
      cases r with
      | cons _ _ => cases b2
      | nil =>
        unfold x_ret at b2
        dsimp only at b2
        split at b2
        next hv =>
          split at b2
          next hc =>
            cases b2
            obtain ⟨x, ys, rfl, gx, h4⟩ := h3.cons
            rw [h4.nil]
            obtain ⟨nn, rfl, gn⟩ := gx.int hv
            refine W.widen (k := x_mc P j) (n := x_ms P j) hc.1 hc.2.1 ?_
            have hq : ∀ t : State, t.heap = H → s.WarmedH t.vm → x_Qc P D cl B0 sc n (fm, fpc, fL, fst, fcc, fss) fs ρ ad av.toArray s (.returned (some (.int nn))) t := fun t ht hW =>
              ⟨⟨k, some v, some (.int nn), ρ', ad', h', E', by omega, rfl, gx, e1, e2, hE', ⟨ws', tys', va_K.moved hW.alike aK, by rw [ht]; exact aP, aD, aH⟩, hall _ (List.mem_singleton.mpr rfl)⟩, aS.F ht⟩
            rcases hc.2.2 with ⟨-, hk⟩ | ⟨-, hk, hz⟩ | ⟨hk, -⟩
            · rw [hk] at m5
              have m5 : x_rt P j = some .int := m5
              exact W.iret B.exec B.bytes (B.returns.trans m5) hq aS.2.2 hdec
            · rw [hk] at m5
              have m5 : x_rt P j = some .boolean := m5
              have hfit := x_fit_ok (kd := 3) hE' gx hz (show x_tyk 3 .boolean from rfl)
              exact W.zret B.exec B.bytes (B.returns.trans m5) hfit.1 hq aS.2.2 hdec
            · cases hk
          next => cases b2
        next => cases b2
  · obtain ⟨b1, b2⟩ := x_if_ok (show x_if (len == 1) (x_ret P j st cc ss ((fm, fpc, fL, fst, fcc, fss) :: fs) h' E' 1) = some lst from hstep)
    have b1 : len = 1 := by simpa using b1
    subst b1
    cases st with
    | nil => cases b2
    | cons v r =>
      cases r with
      | cons _ _ => cases b2
      | nil =>
        unfold x_ret at b2
        dsimp only at b2
        split at b2
        next hv =>
          split at b2
          next hc =>
            cases b2
            obtain ⟨x, ys, rfl, gx, h4⟩ := h3.cons
            rw [h4.nil]
            obtain ⟨nn, rfl, gn⟩ := gx.long hv
            refine W.widen (k := x_mc P j) (n := x_ms P j) hc.1 hc.2.1 ?_
            have hq : ∀ t : State, t.heap = H → s.WarmedH t.vm → x_Qc P D cl B0 sc n (fm, fpc, fL, fst, fcc, fss) fs ρ ad av.toArray s (.returned (some (.long nn))) t := fun t ht hW =>
              ⟨⟨k, some v, some (.long nn), ρ', ad', h', E', by omega, rfl, gx, e1, e2, hE', ⟨ws', tys', va_K.moved hW.alike aK, by rw [ht]; exact aP, aD, aH⟩, hall _ (List.mem_singleton.mpr rfl)⟩, aS.F ht⟩
            rcases hc.2.2 with ⟨hk, -⟩ | ⟨hk, -⟩ | ⟨-, hk⟩
            · cases hk
            · cases hk
            · rw [hk] at m5
              have m5 : x_rt P j = some .long := m5
              exact W.lret B.exec B.bytes (B.returns.trans m5) hq aS.2.2 hdec
          next => cases b2
        next => cases b2
  · obtain ⟨b1, b2⟩ := x_if_ok (show x_if (len == 1) (x_retV P j st cc ss ((fm, fpc, fL, fst, fcc, fss) :: fs) h' E') = some lst from hstep)
    have b1 : len = 1 := by simpa using b1
    subst b1
    cases st with
    | cons _ _ => cases b2
    | nil =>
      unfold x_retV at b2
      dsimp only at b2
      split at b2
      next hc =>
        cases b2
        rw [h3.nil]
        refine W.widen (k := x_mc P j) (n := x_ms P j) hc.1 hc.2.1 ?_
        have hq : ∀ t : State, t.heap = H → s.WarmedH t.vm → x_Qc P D cl B0 sc n (fm, fpc, fL, fst, fcc, fss) fs ρ ad av.toArray s (.returned none) t := fun t ht hW =>
          ⟨⟨k, none, none, ρ', ad', h', E', by omega, rfl, trivial, e1, e2, hE', ⟨ws', tys', va_K.moved hW.alike aK, by rw [ht]; exact aP, aD, aH⟩, hall _ (List.mem_singleton.mpr rfl)⟩, aS.F ht⟩
        have m5' := m5
        rw [hc.2.2] at m5'
        have m5' : x_rt P j = none := m5'
        exact W.vret B.exec B.bytes (B.returns.trans m5') hq aS.2.2 hdec
      next => cases b2
end
section
/-! the executor is sound -/
theorem x_goodIn {w0 : Cond} (h : w0 ∈ x_tbl) : GoodIn x_tbl (w0 :: x_tbl) := by
  have hg : ∀ w ∈ x_tbl, w ∈ x_tbl ∧ ((w.onTables && w.keeps) = true ∨ ∃ ty, w = .arrayClass ty) := fun w hw => ⟨hw, good_of_word (List.mem_filter.mp hw).2⟩
  intro w hw
  rcases List.mem_cons.mp hw with rfl | hw
  · exact hg _ h
  · exact hg _ hw
theorem x_B_of {D : va_G} {cl : List vw_C} {B0 sc : Nat} {s : State} {ρ : List Int} {ad : List Nat} {h : List xC} {E : xE} {H : Heap} {locs : List Loc} (g : x_rel D cl B0 sc s ρ ad h E H locs) (hB : B0 ≤ s.heap.size) (hn : ∀ w ∈ x_nest, va_Nw w s) (U : State) (hU : U.heap = H) (hW : s.WarmedH U.vm) : B0 ≤ U.heap.size ∧ (∀ w ∈ x_nest, va_Nw w U) ∧ x_B D cl B0 sc ρ ad h U := by
  obtain ⟨ws, tys, aK, aP, aD, aS, aH, aE⟩ := g
  exact ⟨by rw [hU]; exact Nat.le_trans hB aS.1, x_nest_warm hW hn, ws, tys, va_K.moved hW.alike aK, by rw [hU]; exact aP, aD, aH⟩
section XI
variable {p : Program} {l : Launch} {e : Env} {R : Room} {s : State} {mid : MethodId} {args : Array Value} {below : List Frame} {meth : Method} {c : Code} {Q : State → Prop} {D : va_G} {cl : List vw_C} {B0 sc : Nat} {ρ0 : List Int} {ad0 : List Nat}
  {m pc : Nat} {L : List (Nat × xV)} {st : List xV} {cc ss : Nat} {fs : List xF} {h : List xC} {E : xE} {P : xP}
/-- the room that a callee gets -/
abbrev x_rm (P : xP) (d j : Nat) : Room := { frames := 50 - (d + 1), cells := x_mc P j, slots := x_ms P j, locals := 100 * (50 - (d + 1)) }
abbrev x_ws (P : xP) (j : Nat) : List Cond := Cond.code (x_nm P j) (x_by P j) (x_maxL P j) (x_rt P j) :: x_tbl
theorem x_w_inv {k j : Nat} {as rest : List xV} {lst : List xS} (hOK : x_OK cl P) (hS : ∀ n', n' ≤ k → x_Snd P D cl B0 sc l n') (ctx : x_Ctx P B0 p R s mid args meth c m fs.length) (hd40 : fs.length ≤ 40) (hscr : m = 0 → x_Scr B0 sc ρ0 s)
    (hend : ∀ (n' pc : Nat) (L : List (Nat × xV)) (st : List xV) (cc ss : Nat) (h : List xC) (E : xE) (i : Instr) (len : Nat), n' ≤ k + 1 → x_code P m pc = some (i, len) → x_isRet i → x_run P n' ((m, pc, L, st, cc, ss) :: fs, h, E) = true → x_OKs p l e R s mid args below meth c Q D cl B0 sc (x_maxL P m) ρ0 ad0 pc L st cc ss h E)
    (hm : x_okm P j) (hpush : x_push P m pc L cc ss fs h E j as rest = some lst) (hall : ∀ S' ∈ lst, x_run P k S' = true)
    (row : ∀ {ρ : List Int} {ad : List Nat} {H : Heap} {locs : List Loc} {ls : Array Slot} {stc : List Value}, fs.length < 40 → x_maxL P j ≤ 60 → cc + x_mc P j ≤ R.cells ∧ ss + x_ms P j ≤ R.slots → (rest.map x_cat).sum ≤ 8 → ls.size = x_maxL P m → x_vals ρ ad sc st stc → x_rel D cl B0 sc s ρ ad h E H locs →
      ∃ av restc : List Value, x_vals ρ ad sc as av ∧ x_vals ρ ad sc rest restc ∧ ∀ Qc : Array Value → State → Outcome → State → Prop, Met l (x_nm P j) (x_ws P j) (x_rm P fs.length j) (va_Pc av (fun U => B0 ≤ U.heap.size ∧ (∀ w ∈ x_nest, va_Nw w U) ∧ x_B D cl B0 sc ρ ad h U)) Qc (x_mc P j) (x_ms P j) (fun q : Nat => B0 ≤ q) →
        va_Run p l e R s mid args below meth c H locs cc ss (x_mc P j) (x_ms P j) (F0 mid pc ls stc) restc (Qc av.toArray) (fun q : Nat => B0 ≤ q)) :
    x_OKs p l e R s mid args below meth c Q D cl B0 sc (x_maxL P m) ρ0 ad0 pc L st cc ss h E := by
  unfold x_push at hpush
  split at hpush
  next hc =>
    cases hpush
    obtain ⟨c1, c2, c3, c4, c5, c6⟩ := hc
    intro ρ ad H locs ls stc e1 e2 hr hfr
    obtain ⟨lv, h1, h2, h3⟩ := hfr
    have hR3 := ctx.2.2.2.2.2.2.2.2.2.2.2.2.1
    have hR4 := ctx.2.2.2.2.2.2.2.2.2.2.2.2.2
    obtain ⟨av, restc, g1, g2, g3⟩ := row c3 c4 ⟨by omega, by omega⟩ c6 h1.1 h3 hr
    have hrun1 := hall _ (List.mem_singleton.mpr rfl)
    have M := x_met (f := (m, pc + 3, L, rest, cc + x_mc P j, ss + x_ms P j)) hOK (hS k (Nat.le_refl _)) hm (rfl : fs.length = fs.length) c3 hrun1 g1 hr.env c5
    have hr0 := hr
    obtain ⟨ws, tys, aK, aP, aD, aS, aH, aE⟩ := hr
    refine x_go_call (g3 _ M) aS (fun n' vo xo ρ' ad' h' E' H1 locs1 hn hv he1 he2 hrel hrun' => ?_)
    refine hS n' (by omega) m (pc + 3) L (vo.toList ++ rest) (cc + x_mc P j) (ss + x_ms P j) fs h' E' hrun' p e R s mid args below meth c Q ρ0 ad0 ctx hd40 hscr (fun n2 pc2 L2 st2 cc2 ss2 h2 E2 i2 len2 hn2 => hend n2 pc2 L2 st2 cc2 ss2 h2 E2 i2 len2 (by omega)) ρ' ad' H1 locs1 ls (xo.toList ++ restc) (e1.tr he1) (e2.tr he2) hrel ⟨lv, h1, h2.mono he1 he2, ?_⟩
    have g2' := g2.mono he1 he2
    cases vo with
    | none =>
      cases xo with
      | none => exact g2'
      | some x => exact hv.elim
    | some v =>
      cases xo with
      | none => exact hv.elim
      | some x => exact ⟨hv, g2'⟩
  next => cases hpush
theorem x_room {d j : Nat} (hd : d < 40) (hj : x_maxL P j ≤ 60) (h1 : 50 - d ≤ R.frames) (h2 : 100 * (50 - d) ≤ R.locals) : (x_rm P d j).frames + 1 ≤ R.frames ∧ 8 + (x_maxL P j + 11) + (x_rm P d j).locals ≤ R.locals := by
  refine ⟨?_, ?_⟩
  · show 50 - (d + 1) + 1 ≤ R.frames
    omega
  · show 8 + (x_maxL P j + 11) + 100 * (50 - (d + 1)) ≤ R.locals
    omega
theorem x_w_invV {k idx : Nat} {lst : List xS} (hOK : x_OK cl P) (hS : ∀ n', n' ≤ k → x_Snd P D cl B0 sc l n') (ctx : x_Ctx P B0 p R s mid args meth c m fs.length) (hd40 : fs.length ≤ 40) (hscr : m = 0 → x_Scr B0 sc ρ0 s)
    (hend : ∀ (n' pc : Nat) (L : List (Nat × xV)) (st : List xV) (cc ss : Nat) (h : List xC) (E : xE) (i : Instr) (len : Nat), n' ≤ k + 1 → x_code P m pc = some (i, len) → x_isRet i → x_run P n' ((m, pc, L, st, cc, ss) :: fs, h, E) = true → x_OKs p l e R s mid args below meth c Q D cl B0 sc (x_maxL P m) ρ0 ad0 pc L st cc ss h E)
    (hdec : decode (x_by P m) pc = .ok (.invokevirtual idx, 3)) (hinv : x_invV P m pc L st cc ss fs h E idx = some lst) (hall : ∀ S' ∈ lst, x_run P k S' = true) :
    x_OKs p l e R s mid args below meth c Q D cl B0 sc (x_maxL P m) ρ0 ad0 pc L st cc ss h E := by
  have hpool := hOK.2.2.1 m idx
  unfold x_invV at hinv
  split at hinv
  next j n hp =>
    rw [hp] at hpool
    obtain ⟨hm, ha, q1, q2, q3, C, q4, q5⟩ := hpool
    split at hinv
    next b kk rest hdrop =>
      split at hinv
      next ci fl hcell =>
        split at hinv
        next hci =>
          refine x_w_inv hOK hS ctx hd40 hscr hend hm hinv hall ?_
          intro ρ ad H locs ls stc d1 d2 d3 d4 d5 h3 hr
          have t1 := h3.take n.toNat
          have t2 := h3.drop n.toNat
          rw [hdrop] at t2
          obtain ⟨x, restc, t3, t4, t5⟩ := t2.cons
          obtain ⟨a, rfl, t6⟩ := t4
          have hstc : stc = stc.take n.toNat ++ .ref a :: restc := by rw [← t3, List.take_append_drop]
          have hlen : (stc.take n.toNat).length = n.toNat := by rw [← t1.len]; exact hci.2
          refine ⟨.ref a :: (stc.take n.toNat).reverse, restc, ⟨⟨a, rfl, t6⟩, t1.rev⟩, t5, fun Qc M => ?_⟩
          have hr0 := hr
          obtain ⟨ws, tys, aK, aP, aD, aS, aH, aE⟩ := hr
          obtain ⟨ev, w1, w2⟩ := aH.at hcell t6
          obtain ⟨xs, rfl, w3⟩ := w2
          obtain ⟨hx, hb, hrt, hml, hown, hts, hnest, hlocks, hnm, hB, hR1, hR2, hR3, hR4⟩ := ctx
          have hcl : cl[ci]? = some C := by rw [hci.1]; exact q4
          have hrec := va_recv aK aP hcl w1
          rw [q5] at hrec
          refine va_runV (C := (x_nm P j).cls) (n := n.toNat) (As := (stc.take n.toNat).reverse) ⟨hx, hb, hml, hown, hts⟩ M
            ⟨callB_of n.toNat hts (x_goodIn hm.1) rfl rfl rfl (hts _ hm.2.1) (hts _ q1) ⟨hm.2.2.2.1.1, hm.2.2.2.1.2, ha⟩ (x_room d1 d2 hR1 hR2), hts _ q2, hts _ q3⟩
            ⟨x_blind, hrec, fun U hU hW => ⟨rfl, x_B_of hr0 hB hnest U hU hW⟩⟩ rfl (by rw [List.length_reverse]; exact hlen) d5 (by show stc = _; rw [List.reverse_reverse]; exact hstc) (lv_room (by rw [x_cats t5]; exact d4)) hdec d3
        next => cases hinv
      next => cases hinv
    next => cases hinv
  next => cases hinv
theorem x_w_invS {k idx : Nat} {lst : List xS} (hOK : x_OK cl P) (hS : ∀ n', n' ≤ k → x_Snd P D cl B0 sc l n') (ctx : x_Ctx P B0 p R s mid args meth c m fs.length) (hd40 : fs.length ≤ 40) (hscr : m = 0 → x_Scr B0 sc ρ0 s)
    (hend : ∀ (n' pc : Nat) (L : List (Nat × xV)) (st : List xV) (cc ss : Nat) (h : List xC) (E : xE) (i : Instr) (len : Nat), n' ≤ k + 1 → x_code P m pc = some (i, len) → x_isRet i → x_run P n' ((m, pc, L, st, cc, ss) :: fs, h, E) = true → x_OKs p l e R s mid args below meth c Q D cl B0 sc (x_maxL P m) ρ0 ad0 pc L st cc ss h E)
    (nx : ∀ (pc' : Nat) (L' : List (Nat × xV)) (st' : List xV) (cc' ss' : Nat) (h' : List xC) (E' : xE), ((m, pc', L', st', cc', ss') :: fs, h', E') ∈ lst → x_OKs p l e R s mid args below meth c Q D cl B0 sc (x_maxL P m) ρ0 ad0 pc' L' st' cc' ss' h' E')
    (hdec : decode (x_by P m) pc = .ok (.invokestatic idx, 3)) (hinv : x_invS P m pc L st cc ss fs h E idx = some lst) (hall : ∀ S' ∈ lst, x_run P k S' = true) :
    x_OKs p l e R s mid args below meth c Q D cl B0 sc (x_maxL P m) ρ0 ad0 pc L st cc ss h E := by
  have hpool := hOK.2.2.1 m idx
  unfold x_invS at hinv
  split at hinv
  next j n hp =>
    rw [hp] at hpool
    obtain ⟨hm, ha, q1, q2⟩ := hpool
    split at hinv
    next hci =>
      refine x_w_inv hOK hS ctx hd40 hscr hend hm hinv hall ?_
      intro ρ ad H locs ls stc d1 d2 d3 d4 d5 h3 hr
      have t1 := h3.take n.toNat
      have t2 := h3.drop n.toNat
      have hlen : (stc.take n.toNat).length = n.toNat := by rw [← t1.len]; exact hci
      refine ⟨(stc.take n.toNat).reverse, stc.drop n.toNat, t1.rev, t2, fun Qc M => ?_⟩
      obtain ⟨hx, hb, hrt, hml, hown, hts, hnest, hlocks, hnm, hB, hR1, hR2, hR3, hR4⟩ := ctx
      refine va_runS (n := n.toNat) (As := (stc.take n.toNat).reverse) ⟨hx, hb, hml, hown, hts⟩ M
        ⟨callB_of n.toNat hts (x_goodIn hm.1) rfl rfl rfl (hts _ hm.2.1) (hts _ q1) ⟨hm.2.2.2.1.1, hm.2.2.2.1.2, ha⟩ (x_room d1 d2 hR1 hR2), hts _ q2⟩
        ⟨x_blind, fun U hU hW => ⟨rfl, x_B_of hr hB hnest U hU hW⟩⟩ rfl (by rw [List.length_reverse]; exact hlen) d5 (by show stc = _; rw [List.reverse_reverse, List.take_append_drop]) (lv_room (by rw [x_cats t2]; exact d4)) hdec d3
    next => cases hinv
  next z1 z2 hp =>
    rw [hp] at hpool
    obtain ⟨hx, hb, hrt, hml, hown, hts, hnest, hlocks, hnm, hB, hR1, hR2, hR3, hR4⟩ := ctx
    unfold x_cpy at hinv
    split at hinv
    next nn dp b1 kd sp b2 ks r =>
      split at hinv
      next n0 lo0 hi0 n1 lo1 hi1 e1 e2 =>
        split at hinv
        next hc =>
          cases hinv
          exact x_w_cpy hx hb hml hown hts hpool hdec (by omega) (by omega) e1 e2 hc.1 hc.2.1 hc.2.2.1 hc.2.2.2.1 hc.2.2.2.2.1 hc.2.2.2.2.2 (nx _ _ _ _ _ _ _ (List.mem_singleton.mpr rfl))
        next => cases hinv
      next => cases hinv
    next => cases hinv
  next z1 z2 hp =>
    rw [hp] at hpool
    obtain ⟨q1, q2, q3, q4⟩ := hpool
    obtain ⟨hx, hb, hrt, hml, hown, hts, hnest, hlocks, hnm, hB, hR1, hR2, hR3, hR4⟩ := ctx
    unfold x_mm at hinv
    split at hinv
    next w v r =>
      split at hinv
      next hc =>
        cases hinv
        exact x_w_mm x_mn (fun x y => if y < x then y else x) (fun h1 h2 h3 => x_mn_ok h1 h2 h3) (fun hl hs k => va_mmin hx hb (by rw [hml]; exact hl.symm) hown (hts _ q1) (hts _ q2) (hts _ q3) (hts _ q4) (by omega) (by omega) (by omega) (by omega) hdec k) hc.1 hc.2.1 hc.2.2.1 (nx _ _ _ _ _ _ _ (List.mem_singleton.mpr rfl))
      next => cases hinv
    next => cases hinv
  next z1 z2 hp =>
    rw [hp] at hpool
    obtain ⟨q1, q2, q3, q4⟩ := hpool
    obtain ⟨hx, hb, hrt, hml, hown, hts, hnest, hlocks, hnm, hB, hR1, hR2, hR3, hR4⟩ := ctx
    unfold x_mm at hinv
    split at hinv
    next w v r =>
      split at hinv
      next hc =>
        cases hinv
        exact x_w_mm x_mx (fun x y => if x < y then y else x) (fun h1 h2 h3 => x_mx_ok h1 h2 h3) (fun hl hs k => va_mmax hx hb (by rw [hml]; exact hl.symm) hown (hts _ q1) (hts _ q2) (hts _ q3) (hts _ q4) (by omega) (by omega) (by omega) (by omega) hdec k) hc.1 hc.2.1 hc.2.2.1 (nx _ _ _ _ _ _ _ (List.mem_singleton.mpr rfl))
      next => cases hinv
    next => cases hinv
  next => cases hinv
theorem x_w_invI {k idx : Nat} {lst : List xS} (hOK : x_OK cl P) (hS : ∀ n', n' ≤ k → x_Snd P D cl B0 sc l n') (ctx : x_Ctx P B0 p R s mid args meth c m fs.length) (hd40 : fs.length ≤ 40) (hscr : m = 0 → x_Scr B0 sc ρ0 s)
    (hend : ∀ (n' pc : Nat) (L : List (Nat × xV)) (st : List xV) (cc ss : Nat) (h : List xC) (E : xE) (i : Instr) (len : Nat), n' ≤ k + 1 → x_code P m pc = some (i, len) → x_isRet i → x_run P n' ((m, pc, L, st, cc, ss) :: fs, h, E) = true → x_OKs p l e R s mid args below meth c Q D cl B0 sc (x_maxL P m) ρ0 ad0 pc L st cc ss h E)
    (nx : ∀ (pc' : Nat) (L' : List (Nat × xV)) (st' : List xV) (cc' ss' : Nat) (h' : List xC) (E' : xE), ((m, pc', L', st', cc', ss') :: fs, h', E') ∈ lst → x_OKs p l e R s mid args below meth c Q D cl B0 sc (x_maxL P m) ρ0 ad0 pc' L' st' cc' ss' h' E')
    (hdec : decode (x_by P m) pc = .ok (.invokespecial idx, 3)) (hinv : x_invI P m pc L st cc ss fs h E idx = some lst) (hall : ∀ S' ∈ lst, x_run P k S' = true) :
    x_OKs p l e R s mid args below meth c Q D cl B0 sc (x_maxL P m) ρ0 ad0 pc L st cc ss h E := by
  have hpool := hOK.2.2.1 m idx
  unfold x_invI at hinv
  split at hinv
  next j n hp =>
    rw [hp] at hpool
    obtain ⟨hm, ha, q1, q2, q3, q4⟩ := hpool
    have q4 : x_rt P j = none := q4
    split at hinv
    next b kk rest hdrop =>
      split at hinv
      next hci =>
        refine x_w_inv hOK hS ctx hd40 hscr hend hm hinv hall ?_
        intro ρ ad H locs ls stc d1 d2 d3 d4 d5 h3 hr
        have t1 := h3.take n.toNat
        have t2 := h3.drop n.toNat
        rw [hdrop] at t2
        obtain ⟨x, restc, t3, t4, t5⟩ := t2.cons
        obtain ⟨a, rfl, t6⟩ := t4
        have hstc : stc = stc.take n.toNat ++ .ref a :: restc := by rw [← t3, List.take_append_drop]
        have hlen : (stc.take n.toNat).length = n.toNat := by rw [← t1.len]; exact hci
        refine ⟨.ref a :: (stc.take n.toNat).reverse, restc, ⟨⟨a, rfl, t6⟩, t1.rev⟩, t5, fun Qc M => ?_⟩
        obtain ⟨hx, hb, hrt, hml, hown, hts, hnest, hlocks, hnm, hB, hR1, hR2, hR3, hR4⟩ := ctx
        refine va_runI (n := n.toNat) (As := (stc.take n.toNat).reverse) ⟨hx, hb, hml, hown, hts⟩ M
          ⟨callB_of n.toNat hts (x_goodIn hm.1) (by unfold x_ws; rw [q4]) rfl rfl (hts _ hm.2.1) (hts _ q1) ⟨hm.2.2.2.1.1, hm.2.2.2.1.2, ha⟩ (x_room d1 d2 hR1 hR2), q3, hts _ q2⟩
          ⟨x_blind, fun U hU hW => ⟨rfl, x_B_of hr hB hnest U hU hW⟩⟩ rfl (by rw [List.length_reverse]; exact hlen) d5 (by show stc = _; rw [List.reverse_reverse]; exact hstc) (lv_room (by rw [x_cats t5]; exact d4)) hdec d3
      next => cases hinv
    next => cases hinv
  next j n hp =>
    rw [hp] at hpool
    obtain ⟨hm, ha, ⟨host, q1⟩, q2, q3, q4⟩ := hpool
    have q4 : x_rt P j = none := q4
    split at hinv
    next b kk rest hdrop =>
      split at hinv
      next hci =>
        refine x_w_inv hOK hS ctx hd40 hscr hend hm hinv hall ?_
        intro ρ ad H locs ls stc d1 d2 d3 d4 d5 h3 hr
        have t1 := h3.take n.toNat
        have t2 := h3.drop n.toNat
        rw [hdrop] at t2
        obtain ⟨x, restc, t3, t4, t5⟩ := t2.cons
        obtain ⟨a, rfl, t6⟩ := t4
        have hstc : stc = stc.take n.toNat ++ .ref a :: restc := by rw [← t3, List.take_append_drop]
        have hlen : (stc.take n.toNat).length = n.toNat := by rw [← t1.len]; exact hci
        refine ⟨.ref a :: (stc.take n.toNat).reverse, restc, ⟨⟨a, rfl, t6⟩, t1.rev⟩, t5, fun Qc M => ?_⟩
        obtain ⟨hx, hb, hrt, hml, hown, hts, hnest, hlocks, hnm, hB, hR1, hR2, hR3, hR4⟩ := ctx
        refine va_runIN (n := n.toNat) (As := (stc.take n.toNat).reverse) ⟨hx, hb, hml, hown, hts⟩ M
          ⟨va_cnB n.toNat hts (x_goodIn hm.1) (by unfold x_ws; rw [q4]) rfl rfl (hnest _ q1) (hts _ hm.2.1) ⟨hm.2.2.2.1.1, hm.2.2.2.1.2, ha⟩ (x_room d1 d2 hR1 hR2), q3, hts _ q2⟩
          ⟨x_blind, fun U hU hW => ⟨rfl, x_B_of hr hB hnest U hU hW⟩⟩ rfl (by rw [List.length_reverse]; exact hlen) d5 (by show stc = _; rw [List.reverse_reverse]; exact hstc) (lv_room (by rw [x_cats t5]; exact d4)) hdec d3
      next => cases hinv
    next => cases hinv
  next z1 z2 hp =>
    rw [hp] at hpool
    obtain ⟨hx, hb, hrt, hml, hown, hts, hnest, hlocks, hnm, hB, hR1, hR2, hR3, hR4⟩ := ctx
    split at hinv
    next b kk r =>
      split at hinv
      next hc =>
        cases hinv
        exact x_w_oinit hx hb hml hown hts hpool hdec (by omega) (by omega) hc (nx _ _ _ _ _ _ _ (List.mem_singleton.mpr rfl))
      next => cases hinv
    next => cases hinv
  next => cases hinv
end XI
end
section
theorem x_swI_mem {m pc : Nat} {L : List (Nat × xV)} {cc ss : Nat} {fs : List xF} {h : List xC} {E : xE} {v : xV} {r : List xV} {lo : Int} {off : Int} {S : xS} : ∀ {offs : List Int} {k i : Nat}, offs[i]? = some off → x_can .eq (x_iv E v) (lo + (k + i : Nat), lo + (k + i : Nat)) = true → S = x_at m cc ss fs h ((pc : Int) + off).toNat L r (x_cap E v (lo + (k + i : Nat)) (lo + (k + i : Nat))) → S ∈ x_swI m pc L cc ss fs h E v r lo k offs
  | [], _, i, h1, _, _ => by simp at h1
  | o :: offs, k, 0, h1, h2, h3 => by
    have h1 : o = off := by simpa using h1
    subst h1
    unfold x_swI
    rw [Nat.add_zero] at h2 h3
    rw [if_pos h2]
    exact List.mem_append_left _ (List.mem_singleton.mpr h3)
  | o :: offs, k, i + 1, h1, h2, h3 => by
    unfold x_swI
    refine List.mem_append_right _ (x_swI_mem (k := k + 1) (i := i) (by simpa using h1) ?_ ?_)
    · rw [show k + 1 + i = k + (i + 1) by omega]; exact h2
    · rw [show k + 1 + i = k + (i + 1) by omega]; exact h3
/-- a constructor's own class -/
theorem x_own {cl : List vw_C} {P : xP} {m idx ci : Nat} {f : Int} {C : vw_C} (hOK : x_OK cl P) (hp : x_okp cl P (x_nm P m).cls idx (1, ci, f)) (hC : cl[ci]? = some C) (h1 : (x_nm P m).name = "<init>") (h2 : x_mci P m = ci) : C.1 = (x_nm P m).cls := hOK.2.2.2.2.2.2 m C h1 (by rw [h2]; exact hC)
/-! the induction over the steps -/
theorem x_len {len n : Nat} (h : (len == n) = true) : len = n := by simpa using h
set_option maxHeartbeats 4000000 in
theorem x_snd {P : xP} {D : va_G} {cl : List vw_C} {B0 sc : Nat} {l : Launch} (hOK : x_OK cl P) : ∀ n, x_Snd P D cl B0 sc l n := by
  intro n
  induction n using Nat.strongRecOn with
  | _ n ih =>
  intro m pc L st cc ss fs h E hrun p e R s mid args below meth c Q ρ0 ad0 ctx hd40 hscr hend
  cases n with
  | zero => cases hrun
  | succ k =>
  obtain ⟨lst, hstep, hall⟩ := x_run_ok hrun
  have hctx := ctx
  obtain ⟨hx, hb, hrt, hml, hown, hts, hnest, hlocks, hnm, hB, hR1, hR2, hR3, hR4⟩ := ctx
  cases hcode : x_code P m pc with
  | none => simp [x_step, hcode] at hstep
  | some q =>
  obtain ⟨i, len⟩ := q
  have hins : x_ins P m pc L st cc ss fs h E i len = some lst := by
    have : x_step P ((m, pc, L, st, cc, ss) :: fs, h, E) = x_ins P m pc L st cc ss fs h E i len := by simp only [x_step, hcode]
    rw [← this]
    exact hstep
  have hd := hOK.1 m pc i len hcode
  have hS : ∀ n', n' ≤ k → x_Snd P D cl B0 sc l n' := fun n' hn => ih n' (by omega)
  have nx : ∀ (pc' : Nat) (L' : List (Nat × xV)) (st' : List xV) (cc' ss' : Nat) (h' : List xC) (E' : xE), ((m, pc', L', st', cc', ss') :: fs, h', E') ∈ lst → x_OKs p l e R s mid args below meth c Q D cl B0 sc (x_maxL P m) ρ0 ad0 pc' L' st' cc' ss' h' E' :=
    fun pc' L' st' cc' ss' h' E' hm => hS k (Nat.le_refl _) m pc' L' st' cc' ss' fs h' E' (hall _ hm) p e R s mid args below meth c Q ρ0 ad0 hctx hd40 hscr (fun n2 pc2 L2 st2 cc2 ss2 h2 E2 i2 len2 hn2 => hend n2 pc2 L2 st2 cc2 ss2 h2 E2 i2 len2 (by omega))
  clear hstep ih
  cases i
  case iconst z =>
    obtain ⟨b1, b2⟩ := x_if_ok (show x_if (len == 1) (x_push1 m pc L st cc ss fs h E 1 (0, none, (Int32.ofInt z).toInt)) = some lst from hins)
    cases x_len b1
    cases b2
    exact x_w_push (n := 1) (v := (0, none, (Int32.ofInt z).toInt)) (fun k => lv_iconst hx hb hd rfl k) (fun _ _ => ⟨_, rfl, rfl⟩) (nx _ _ _ _ _ _ _ (List.mem_singleton.mpr rfl))
  case bipush z =>
    obtain ⟨b1, b2⟩ := x_if_ok (show x_if (len == 2) (x_push1 m pc L st cc ss fs h E 2 (0, none, (Int8.ofInt z).toInt32.toInt)) = some lst from hins)
    cases x_len b1
    cases b2
    exact x_w_push (n := 2) (v := (0, none, (Int8.ofInt z).toInt32.toInt)) (fun k => lv_bipush hx hb hd rfl k) (fun _ _ => ⟨_, rfl, rfl⟩) (nx _ _ _ _ _ _ _ (List.mem_singleton.mpr rfl))
  case sipush z =>
    obtain ⟨b1, b2⟩ := x_if_ok (show x_if (len == 3) (x_push1 m pc L st cc ss fs h E 3 (0, none, (Int16.ofInt z).toInt32.toInt)) = some lst from hins)
    cases x_len b1
    cases b2
    exact x_w_push (n := 3) (v := (0, none, (Int16.ofInt z).toInt32.toInt)) (fun k => lv_sipush hx hb hd rfl k) (fun _ _ => ⟨_, rfl, rfl⟩) (nx _ _ _ _ _ _ _ (List.mem_singleton.mpr rfl))
  case lconst z =>
    obtain ⟨b1, b2⟩ := x_if_ok (show x_if (len == 1) (x_push1 m pc L st cc ss fs h E 1 (1, none, (Int64.ofNat (z : Nat)).toInt)) = some lst from hins)
    cases x_len b1
    cases b2
    exact x_w_push (n := 1) (v := (1, none, (Int64.ofNat (z : Nat)).toInt)) (fun k => lv_lconst hx hb hd rfl k) (fun _ _ => ⟨_, rfl, rfl⟩) (nx _ _ _ _ _ _ _ (List.mem_singleton.mpr rfl))
  case ldc idx =>
    obtain ⟨b1, b2⟩ := x_if_ok (show x_if (len == 2) (match x_pool P m idx with | (7, _, c) => x_push1 m pc L st cc ss fs h E 2 (0, none, c) | _ => none) = some lst from hins)
    cases x_len b1
    have hpool := hOK.2.2.1 m idx
    split at b2
    · next z1 z2 hp =>
        rw [hp] at hpool
        obtain ⟨v, q1, q2⟩ := hpool
        cases b2
        exact x_w_push (n := 2) (v := (0, none, z2)) (fun k => lv_ldc hx hb hown (hts _ q1) hd k) (fun _ _ => ⟨v, rfl, q2⟩) (nx _ _ _ _ _ _ _ (List.mem_singleton.mpr rfl))
    · cases b2
  case ldc_w idx =>
    obtain ⟨b1, b2⟩ := x_if_ok (show x_if (len == 3) (match x_pool P m idx with | (7, _, c) => x_push1 m pc L st cc ss fs h E 3 (0, none, c) | _ => none) = some lst from hins)
    cases x_len b1
    have hpool := hOK.2.2.1 m idx
    split at b2
    · next z1 z2 hp =>
        rw [hp] at hpool
        obtain ⟨v, q1, q2⟩ := hpool
        cases b2
        exact x_w_push (n := 3) (v := (0, none, z2)) (fun k => lv_ldcw hx hb hown (hts _ q1) hd k) (fun _ _ => ⟨v, rfl, q2⟩) (nx _ _ _ _ _ _ _ (List.mem_singleton.mpr rfl))
    · cases b2
  case ldc2_w idx =>
    obtain ⟨b1, b2⟩ := x_if_ok (show x_if (len == 3) (match x_pool P m idx with | (8, _, c) => x_push1 m pc L st cc ss fs h E 3 (1, none, c) | _ => none) = some lst from hins)
    cases x_len b1
    have hpool := hOK.2.2.1 m idx
    split at b2
    · next z1 z2 hp =>
        rw [hp] at hpool
        obtain ⟨v, q1, q2⟩ := hpool
        cases b2
        exact x_w_push (n := 3) (v := (1, none, z2)) (fun k => lv_ldc2 hx hb hown (hts _ q1) hd k) (fun _ _ => ⟨v, rfl, q2⟩) (nx _ _ _ _ _ _ _ (List.mem_singleton.mpr rfl))
    · cases b2
  case iload z =>
    obtain ⟨b1, b2⟩ := x_if_ok (show x_if (len == 2) (x_ld m pc L st cc ss fs h E 2 0 z) = some lst from hins)
    cases x_len b1
    unfold x_ld at b2
    split at b2
    · next v hv =>
        split at b2
        · next ht =>
            cases b2
            refine x_w_load (n := 2) hv (fun {x ρ ad H locs ls rest} g hl k => ?_) (nx _ _ _ _ _ _ _ (List.mem_singleton.mpr rfl))
            obtain ⟨a, rfl, -⟩ := g.int ht
            exact lv_iload hx hb hd hl k
        · cases b2
    · cases b2
  case iload_n z =>
    obtain ⟨b1, b2⟩ := x_if_ok (show x_if (len == 1) (x_ld m pc L st cc ss fs h E 1 0 (z : Nat)) = some lst from hins)
    cases x_len b1
    unfold x_ld at b2
    split at b2
    · next v hv =>
        split at b2
        · next ht =>
            cases b2
            refine x_w_load (n := 1) hv (fun {x ρ ad H locs ls rest} g hl k => ?_) (nx _ _ _ _ _ _ _ (List.mem_singleton.mpr rfl))
            obtain ⟨a, rfl, -⟩ := g.int ht
            exact lv_iload_n hx hb hd rfl hl k
        · cases b2
    · cases b2
  case lload z =>
    obtain ⟨b1, b2⟩ := x_if_ok (show x_if (len == 2) (x_ld m pc L st cc ss fs h E 2 1 z) = some lst from hins)
    cases x_len b1
    unfold x_ld at b2
    split at b2
    · next v hv =>
        split at b2
        · next ht =>
            cases b2
            refine x_w_load (n := 2) hv (fun {x ρ ad H locs ls rest} g hl k => ?_) (nx _ _ _ _ _ _ _ (List.mem_singleton.mpr rfl))
            obtain ⟨a, rfl, -⟩ := g.long ht
            exact lv_lload hx hb hd hl k
        · cases b2
    · cases b2
  case lload_n z =>
    obtain ⟨b1, b2⟩ := x_if_ok (show x_if (len == 1) (x_ld m pc L st cc ss fs h E 1 1 (z : Nat)) = some lst from hins)
    cases x_len b1
    unfold x_ld at b2
    split at b2
    · next v hv =>
        split at b2
        · next ht =>
            cases b2
            refine x_w_load (n := 1) hv (fun {x ρ ad H locs ls rest} g hl k => ?_) (nx _ _ _ _ _ _ _ (List.mem_singleton.mpr rfl))
            obtain ⟨a, rfl, -⟩ := g.long ht
            exact lv_lload_n hx hb hd rfl hl k
        · cases b2
    · cases b2
  case aload z =>
    obtain ⟨b1, b2⟩ := x_if_ok (show x_if (len == 2) (x_lda m pc L st cc ss fs h E 2 z) = some lst from hins)
    cases x_len b1
    unfold x_lda at b2
    split at b2
    · next v hv =>
        split at b2
        · next ht =>
            cases b2
            refine x_w_load (n := 2) hv (fun {x ρ ad H locs ls rest} g hl k => ?_) (nx _ _ _ _ _ _ _ (List.mem_singleton.mpr rfl))
            have hx9 : ∃ a, x = .ref a := by
              obtain ⟨t9, b9, c9⟩ := v
              rcases ht with ht | ht
              · have ht : t9 = 3 := ht
                subst ht
                obtain ⟨a, g1, -⟩ := g
                exact ⟨a, g1⟩
              · have ht : t9 = 4 := ht
                subst ht
                exact ⟨sc, g⟩
            obtain ⟨a, rfl⟩ := hx9
            exact lv_aload hx hb hd hl k
        · cases b2
    · cases b2
  case aload_n z =>
    obtain ⟨b1, b2⟩ := x_if_ok (show x_if (len == 1) (x_lda m pc L st cc ss fs h E 1 (z : Nat)) = some lst from hins)
    cases x_len b1
    unfold x_lda at b2
    split at b2
    · next v hv =>
        split at b2
        · next ht =>
            cases b2
            refine x_w_load (n := 1) hv (fun {x ρ ad H locs ls rest} g hl k => ?_) (nx _ _ _ _ _ _ _ (List.mem_singleton.mpr rfl))
            have hx9 : ∃ a, x = .ref a := by
              obtain ⟨t9, b9, c9⟩ := v
              rcases ht with ht | ht
              · have ht : t9 = 3 := ht
                subst ht
                obtain ⟨a, g1, -⟩ := g
                exact ⟨a, g1⟩
              · have ht : t9 = 4 := ht
                subst ht
                exact ⟨sc, g⟩
            obtain ⟨a, rfl⟩ := hx9
            exact lv_aload_n hx hb hd rfl hl k
        · cases b2
    · cases b2
  case istore z =>
    obtain ⟨b1, b2⟩ := x_if_ok (show x_if (len == 2) (x_st P m pc L st cc ss fs h E 2 z) = some lst from hins)
    cases x_len b1
    cases st with
    | nil => cases b2
    | cons v r =>
      unfold x_st at b2
      dsimp only at b2
      split at b2
      · next ht =>
          cases b2
          refine x_w_store1 (n := 2) (i := z) (fun {x ρ ad H locs ls rest lv lv'} g hl hl2 k => ?_) (nx _ _ _ _ _ _ _ (List.mem_singleton.mpr rfl))
          obtain ⟨a, rfl, -⟩ := g.int ht.1
          exact lv_istore hx hb hd hl ht.2 hl2 k
      · cases b2
  case istore_n z =>
    obtain ⟨b1, b2⟩ := x_if_ok (show x_if (len == 1) (x_st P m pc L st cc ss fs h E 1 (z : Nat)) = some lst from hins)
    cases x_len b1
    cases st with
    | nil => cases b2
    | cons v r =>
      unfold x_st at b2
      dsimp only at b2
      split at b2
      · next ht =>
          cases b2
          refine x_w_store1 (n := 1) (i := (z : Nat)) (fun {x ρ ad H locs ls rest lv lv'} g hl hl2 k => ?_) (nx _ _ _ _ _ _ _ (List.mem_singleton.mpr rfl))
          obtain ⟨a, rfl, -⟩ := g.int ht.1
          exact lv_istore_n hx hb hd rfl hl ht.2 hl2 k
      · cases b2
  case lstore z =>
    obtain ⟨b1, b2⟩ := x_if_ok (show x_if (len == 2) (x_stL P m pc L st cc ss fs h E 2 z) = some lst from hins)
    cases x_len b1
    cases st with
    | nil => cases b2
    | cons v r =>
      unfold x_stL at b2
      dsimp only at b2
      split at b2
      · next ht =>
          cases b2
          refine x_w_store2 (n := 2) (i := z) (fun {x ρ ad H locs ls rest lv lv'} g hl hl2 k => ?_) (nx _ _ _ _ _ _ _ (List.mem_singleton.mpr rfl))
          obtain ⟨a, rfl, -⟩ := g.long ht.1
          exact lv_lstore hx hb hd hl ht.2 hl2 k
      · cases b2
  case lstore_n z =>
    obtain ⟨b1, b2⟩ := x_if_ok (show x_if (len == 1) (x_stL P m pc L st cc ss fs h E 1 (z : Nat)) = some lst from hins)
    cases x_len b1
    cases st with
    | nil => cases b2
    | cons v r =>
      unfold x_stL at b2
      dsimp only at b2
      split at b2
      · next ht =>
          cases b2
          refine x_w_store2 (n := 1) (i := (z : Nat)) (fun {x ρ ad H locs ls rest lv lv'} g hl hl2 k => ?_) (nx _ _ _ _ _ _ _ (List.mem_singleton.mpr rfl))
          obtain ⟨a, rfl, -⟩ := g.long ht.1
          exact lv_lstore_n hx hb hd rfl hl ht.2 hl2 k
      · cases b2
  case astore z =>
    obtain ⟨b1, b2⟩ := x_if_ok (show x_if (len == 2) (x_stA P m pc L st cc ss fs h E 2 z) = some lst from hins)
    cases x_len b1
    cases st with
    | nil => cases b2
    | cons v r =>
      unfold x_stA at b2
      dsimp only at b2
      split at b2
      · next ht =>
          cases b2
          refine x_w_store1 (n := 2) (i := z) (fun {x ρ ad H locs ls rest lv lv'} g hl hl2 k => ?_) (nx _ _ _ _ _ _ _ (List.mem_singleton.mpr rfl))
          obtain ⟨a, rfl, -⟩ := g.ref ht.1
          exact lv_astore hx hb hd hl ht.2 hl2 k
      · cases b2
  case astore_n z =>
    obtain ⟨b1, b2⟩ := x_if_ok (show x_if (len == 1) (x_stA P m pc L st cc ss fs h E 1 (z : Nat)) = some lst from hins)
    cases x_len b1
    cases st with
    | nil => cases b2
    | cons v r =>
      unfold x_stA at b2
      dsimp only at b2
      split at b2
      · next ht =>
          cases b2
          refine x_w_store1 (n := 1) (i := (z : Nat)) (fun {x ρ ad H locs ls rest lv lv'} g hl hl2 k => ?_) (nx _ _ _ _ _ _ _ (List.mem_singleton.mpr rfl))
          obtain ⟨a, rfl, -⟩ := g.ref ht.1
          exact lv_astore_n hx hb hd rfl hl ht.2 hl2 k
      · cases b2
  case iinc z zc =>
    obtain ⟨b1, b2⟩ := x_if_ok (show x_if (len == 3) (match x_find L z with | some v => if v.1 = 0 ∧ z < x_maxL P m then some [x_at m cc ss fs h (pc + 3) (x_put1 L z (x_addc E v (Int32.ofInt zc).toInt).1) st (x_addc E v (Int32.ofInt zc).toInt).2] else none | none => none) = some lst from hins)
    cases x_len b1
    split at b2
    · next v hv =>
        split at b2
        · next ht =>
            cases b2
            exact x_w_iinc hx hb hd hv ht.1 ht.2 (nx _ _ _ _ _ _ _ (List.mem_singleton.mpr rfl))
        · cases b2
    · cases b2
  case iadd =>
    obtain ⟨b1, b2⟩ := x_if_ok (show x_if (len == 1) (x_op2 m pc L st cc ss fs h E x_add) = some lst from hins)
    cases x_len b1
    unfold x_op2 at b2
    split at b2
    · next w v r =>
        split at b2
        · next ht =>
            cases b2
            exact x_w_op2 x_add (· + ·) (fun h1 h2 h3 => x_add_ok h1 h2 h3) (fun _ _ k => lv_iadd hx hb hd k) ht.1 ht.2 (nx _ _ _ _ _ _ _ (List.mem_singleton.mpr rfl))
        · cases b2
    · cases b2
  case isub =>
    obtain ⟨b1, b2⟩ := x_if_ok (show x_if (len == 1) (x_op2 m pc L st cc ss fs h E x_sub) = some lst from hins)
    cases x_len b1
    unfold x_op2 at b2
    split at b2
    · next w v r =>
        split at b2
        · next ht =>
            cases b2
            exact x_w_op2 x_sub (· - ·) (fun h1 h2 h3 => x_sub_ok h1 h2 h3) (fun _ _ k => lv_isub hx hb hd k) ht.1 ht.2 (nx _ _ _ _ _ _ _ (List.mem_singleton.mpr rfl))
        · cases b2
    · cases b2
  case imul =>
    obtain ⟨b1, b2⟩ := x_if_ok (show x_if (len == 1) (x_op2 m pc L st cc ss fs h E (x_bin (· * ·))) = some lst from hins)
    cases x_len b1
    unfold x_op2 at b2
    split at b2
    · next w v r =>
        split at b2
        · next ht =>
            cases b2
            exact x_w_op2 (x_bin (· * ·)) (· * ·) (fun h1 h2 h3 => x_bin_ok (· * ·) h1 h2 h3) (fun _ _ k => lv_imul hx hb hd k) ht.1 ht.2 (nx _ _ _ _ _ _ _ (List.mem_singleton.mpr rfl))
        · cases b2
    · cases b2
  case iand =>
    obtain ⟨b1, b2⟩ := x_if_ok (show x_if (len == 1) (x_op2 m pc L st cc ss fs h E (x_bin (· &&& ·))) = some lst from hins)
    cases x_len b1
    unfold x_op2 at b2
    split at b2
    · next w v r =>
        split at b2
        · next ht =>
            cases b2
            exact x_w_op2 (x_bin (· &&& ·)) (· &&& ·) (fun h1 h2 h3 => x_bin_ok (· &&& ·) h1 h2 h3) (fun _ _ k => lv_iand hx hb hd k) ht.1 ht.2 (nx _ _ _ _ _ _ _ (List.mem_singleton.mpr rfl))
        · cases b2
    · cases b2
  case ior =>
    obtain ⟨b1, b2⟩ := x_if_ok (show x_if (len == 1) (x_op2 m pc L st cc ss fs h E (x_bin (· ||| ·))) = some lst from hins)
    cases x_len b1
    unfold x_op2 at b2
    split at b2
    · next w v r =>
        split at b2
        · next ht =>
            cases b2
            exact x_w_op2 (x_bin (· ||| ·)) (· ||| ·) (fun h1 h2 h3 => x_bin_ok (· ||| ·) h1 h2 h3) (fun _ _ k => lv_ior hx hb hd k) ht.1 ht.2 (nx _ _ _ _ _ _ _ (List.mem_singleton.mpr rfl))
        · cases b2
    · cases b2
  case ixor =>
    obtain ⟨b1, b2⟩ := x_if_ok (show x_if (len == 1) (x_op2 m pc L st cc ss fs h E (x_bin (· ^^^ ·))) = some lst from hins)
    cases x_len b1
    unfold x_op2 at b2
    split at b2
    · next w v r =>
        split at b2
        · next ht =>
            cases b2
            exact x_w_op2 (x_bin (· ^^^ ·)) (· ^^^ ·) (fun h1 h2 h3 => x_bin_ok (· ^^^ ·) h1 h2 h3) (fun _ _ k => lv_ixor hx hb hd k) ht.1 ht.2 (nx _ _ _ _ _ _ _ (List.mem_singleton.mpr rfl))
        · cases b2
    · cases b2
  case ishl =>
    obtain ⟨b1, b2⟩ := x_if_ok (show x_if (len == 1) (x_op2 m pc L st cc ss fs h E (x_bin (fun x y => x <<< (y &&& 31)))) = some lst from hins)
    cases x_len b1
    unfold x_op2 at b2
    split at b2
    · next w v r =>
        split at b2
        · next ht =>
            cases b2
            exact x_w_op2 (x_bin (fun x y => x <<< (y &&& 31))) (fun x y => x <<< (y &&& 31)) (fun h1 h2 h3 => x_bin_ok (fun x y => x <<< (y &&& 31)) h1 h2 h3) (fun _ _ k => lv_ishl hx hb hd k) ht.1 ht.2 (nx _ _ _ _ _ _ _ (List.mem_singleton.mpr rfl))
        · cases b2
    · cases b2
  case ishr =>
    obtain ⟨b1, b2⟩ := x_if_ok (show x_if (len == 1) (x_op2 m pc L st cc ss fs h E (x_bin (fun x y => x >>> (y &&& 31)))) = some lst from hins)
    cases x_len b1
    unfold x_op2 at b2
    split at b2
    · next w v r =>
        split at b2
        · next ht =>
            cases b2
            exact x_w_op2 (x_bin (fun x y => x >>> (y &&& 31))) (fun x y => x >>> (y &&& 31)) (fun h1 h2 h3 => x_bin_ok (fun x y => x >>> (y &&& 31)) h1 h2 h3) (fun _ _ k => lv_ishr hx hb hd k) ht.1 ht.2 (nx _ _ _ _ _ _ _ (List.mem_singleton.mpr rfl))
        · cases b2
    · cases b2
  case iushr =>
    obtain ⟨b1, b2⟩ := x_if_ok (show x_if (len == 1) (x_op2 m pc L st cc ss fs h E (x_bin (fun x y => (x.toUInt32 >>> (y.toUInt32 &&& Int32.toUInt32 31)).toInt32))) = some lst from hins)
    cases x_len b1
    unfold x_op2 at b2
    split at b2
    · next w v r =>
        split at b2
        · next ht =>
            cases b2
            exact x_w_op2 (x_bin (fun x y => (x.toUInt32 >>> (y.toUInt32 &&& Int32.toUInt32 31)).toInt32)) (fun x y => (x.toUInt32 >>> (y.toUInt32 &&& Int32.toUInt32 31)).toInt32) (fun h1 h2 h3 => x_bin_ok (fun x y => (x.toUInt32 >>> (y.toUInt32 &&& Int32.toUInt32 31)).toInt32) h1 h2 h3) (fun _ _ k => lv_iushr hx hb hd rfl k) ht.1 ht.2 (nx _ _ _ _ _ _ _ (List.mem_singleton.mpr rfl))
        · cases b2
    · cases b2
  case idiv =>
    obtain ⟨b1, b2⟩ := x_if_ok (show x_if (len == 1) (x_div m pc L st cc ss fs h E (x_bin (· / ·))) = some lst from hins)
    cases x_len b1
    unfold x_div at b2
    split at b2
    · next w v r =>
        split at b2
        · next ht =>
            cases b2
            exact x_w_op2 (x_bin (· / ·)) (· / ·) (fun h1 h2 h3 => x_bin_ok (· / ·) h1 h2 h3) (fun he hy k => lv_idiv hx hb hd (fun z => x_nz_ok he hy ht.2.2 (by rw [z]; rfl)) k) ht.1 ht.2.1 (nx _ _ _ _ _ _ _ (List.mem_singleton.mpr rfl))
        · cases b2
    · cases b2
  case irem =>
    obtain ⟨b1, b2⟩ := x_if_ok (show x_if (len == 1) (x_div m pc L st cc ss fs h E (x_bin (fun x y => x - x / y * y))) = some lst from hins)
    cases x_len b1
    unfold x_div at b2
    split at b2
    · next w v r =>
        split at b2
        · next ht =>
            cases b2
            exact x_w_op2 (x_bin (fun x y => x - x / y * y)) (fun x y => x - x / y * y) (fun h1 h2 h3 => x_bin_ok (fun x y => x - x / y * y) h1 h2 h3) (fun he hy k => lv_irem hx hb hd (fun z => x_nz_ok he hy ht.2.2 (by rw [z]; rfl)) k) ht.1 ht.2.1 (nx _ _ _ _ _ _ _ (List.mem_singleton.mpr rfl))
        · cases b2
    · cases b2
  case ldiv =>
    obtain ⟨b1, b2⟩ := x_if_ok (show x_if (len == 1) (x_divL m pc L st cc ss fs h E (x_binL (· / ·))) = some lst from hins)
    cases x_len b1
    unfold x_divL at b2
    split at b2
    · next w v r =>
        split at b2
        · next ht =>
            cases b2
            exact x_w_opL (x_binL (· / ·)) (· / ·) (fun h1 h2 h3 => x_binL_ok (· / ·) h1 h2 h3) (fun he hy k => lv_ldiv hx hb hd (fun z => x_nz_ok he hy ht.2.2 (by rw [z]; rfl)) k) ht.1 ht.2.1 (nx _ _ _ _ _ _ _ (List.mem_singleton.mpr rfl))
        · cases b2
    · cases b2
  case lrem =>
    obtain ⟨b1, b2⟩ := x_if_ok (show x_if (len == 1) (x_divL m pc L st cc ss fs h E (x_binL (fun x y => x - x / y * y))) = some lst from hins)
    cases x_len b1
    unfold x_divL at b2
    split at b2
    · next w v r =>
        split at b2
        · next ht =>
            cases b2
            exact x_w_opL (x_binL (fun x y => x - x / y * y)) (fun x y => x - x / y * y) (fun h1 h2 h3 => x_binL_ok (fun x y => x - x / y * y) h1 h2 h3) (fun he hy k => lv_lrem hx hb hd (fun z => x_nz_ok he hy ht.2.2 (by rw [z]; rfl)) k) ht.1 ht.2.1 (nx _ _ _ _ _ _ _ (List.mem_singleton.mpr rfl))
        · cases b2
    · cases b2
  case ladd =>
    obtain ⟨b1, b2⟩ := x_if_ok (show x_if (len == 1) (x_opL m pc L st cc ss fs h E (x_binL (· + ·))) = some lst from hins)
    cases x_len b1
    unfold x_opL at b2
    split at b2
    · next w v r =>
        split at b2
        · next ht =>
            cases b2
            exact x_w_opL (x_binL (· + ·)) (· + ·) (fun h1 h2 h3 => x_binL_ok (· + ·) h1 h2 h3) (fun _ _ k => lv_ladd hx hb hd k) ht.1 ht.2 (nx _ _ _ _ _ _ _ (List.mem_singleton.mpr rfl))
        · cases b2
    · cases b2
  case lsub =>
    obtain ⟨b1, b2⟩ := x_if_ok (show x_if (len == 1) (x_opL m pc L st cc ss fs h E (x_binL (· - ·))) = some lst from hins)
    cases x_len b1
    unfold x_opL at b2
    split at b2
    · next w v r =>
        split at b2
        · next ht =>
            cases b2
            exact x_w_opL (x_binL (· - ·)) (· - ·) (fun h1 h2 h3 => x_binL_ok (· - ·) h1 h2 h3) (fun _ _ k => lv_lsub hx hb hd k) ht.1 ht.2 (nx _ _ _ _ _ _ _ (List.mem_singleton.mpr rfl))
        · cases b2
    · cases b2
  case lmul =>
    obtain ⟨b1, b2⟩ := x_if_ok (show x_if (len == 1) (x_opL m pc L st cc ss fs h E (x_binL (· * ·))) = some lst from hins)
    cases x_len b1
    unfold x_opL at b2
    split at b2
    · next w v r =>
        split at b2
        · next ht =>
            cases b2
            exact x_w_opL (x_binL (· * ·)) (· * ·) (fun h1 h2 h3 => x_binL_ok (· * ·) h1 h2 h3) (fun _ _ k => lv_lmul hx hb hd k) ht.1 ht.2 (nx _ _ _ _ _ _ _ (List.mem_singleton.mpr rfl))
        · cases b2
    · cases b2
  case land =>
    obtain ⟨b1, b2⟩ := x_if_ok (show x_if (len == 1) (x_opL m pc L st cc ss fs h E (x_binL (· &&& ·))) = some lst from hins)
    cases x_len b1
    unfold x_opL at b2
    split at b2
    · next w v r =>
        split at b2
        · next ht =>
            cases b2
            exact x_w_opL (x_binL (· &&& ·)) (· &&& ·) (fun h1 h2 h3 => x_binL_ok (· &&& ·) h1 h2 h3) (fun _ _ k => lv_land hx hb hd k) ht.1 ht.2 (nx _ _ _ _ _ _ _ (List.mem_singleton.mpr rfl))
        · cases b2
    · cases b2
  case lor =>
    obtain ⟨b1, b2⟩ := x_if_ok (show x_if (len == 1) (x_opL m pc L st cc ss fs h E (x_binL (· ||| ·))) = some lst from hins)
    cases x_len b1
    unfold x_opL at b2
    split at b2
    · next w v r =>
        split at b2
        · next ht =>
            cases b2
            exact x_w_opL (x_binL (· ||| ·)) (· ||| ·) (fun h1 h2 h3 => x_binL_ok (· ||| ·) h1 h2 h3) (fun _ _ k => lv_lor hx hb hd k) ht.1 ht.2 (nx _ _ _ _ _ _ _ (List.mem_singleton.mpr rfl))
        · cases b2
    · cases b2
  case lcmp =>
    obtain ⟨b1, b2⟩ := x_if_ok (show x_if (len == 1) (x_opL m pc L st cc ss fs h E x_cmpL) = some lst from hins)
    cases x_len b1
    unfold x_opL at b2
    split at b2
    · next w v r =>
        split at b2
        · next ht =>
            cases b2
            exact x_w_lcmp hx hb hd ht.1 ht.2 (nx _ _ _ _ _ _ _ (List.mem_singleton.mpr rfl))
        · cases b2
    · cases b2
  case lshl =>
    obtain ⟨b1, b2⟩ := x_if_ok (show x_if (len == 1) (x_opS m pc L st cc ss fs h E (x_shL (fun x y => x <<< (y.toInt64 &&& 63)))) = some lst from hins)
    cases x_len b1
    unfold x_opS at b2
    split at b2
    · next w v r =>
        split at b2
        · next ht =>
            cases b2
            exact x_w_opS (x_shL (fun x y => x <<< (y.toInt64 &&& 63))) (fun x y => x <<< (y.toInt64 &&& 63)) (fun h1 h2 h3 => x_shL_ok (fun x y => x <<< (y.toInt64 &&& 63)) h1 h2 h3) (fun k => lv_lshl hx hb hd rfl k) ht.1 ht.2 (nx _ _ _ _ _ _ _ (List.mem_singleton.mpr rfl))
        · cases b2
    · cases b2
  case lshr =>
    obtain ⟨b1, b2⟩ := x_if_ok (show x_if (len == 1) (x_opS m pc L st cc ss fs h E (x_shL (fun x y => x >>> (y.toInt64 &&& 63)))) = some lst from hins)
    cases x_len b1
    unfold x_opS at b2
    split at b2
    · next w v r =>
        split at b2
        · next ht =>
            cases b2
            exact x_w_opS (x_shL (fun x y => x >>> (y.toInt64 &&& 63))) (fun x y => x >>> (y.toInt64 &&& 63)) (fun h1 h2 h3 => x_shL_ok (fun x y => x >>> (y.toInt64 &&& 63)) h1 h2 h3) (fun k => lv_lshr hx hb hd rfl k) ht.1 ht.2 (nx _ _ _ _ _ _ _ (List.mem_singleton.mpr rfl))
        · cases b2
    · cases b2
  case i2l =>
    obtain ⟨b1, b2⟩ := x_if_ok (show x_if (len == 1) (match (generalizing := false) st with | v :: r => if v.1 = 0 then some [x_at m cc ss fs h (pc + 1) L ((1, v.2) :: r) E] else none | [] => none) = some lst from hins)
    cases x_len b1
    split at b2
    · next v r =>
        split at b2
        · next ht =>
            cases b2
            exact x_w_i2l hx hb hd ht (nx _ _ _ _ _ _ _ (List.mem_singleton.mpr rfl))
        · cases b2
    · cases b2
  case l2i =>
    obtain ⟨b1, b2⟩ := x_if_ok (show x_if (len == 1) (match (generalizing := false) st with | v :: r => if v.1 = 1 then some [x_at m cc ss fs h (pc + 1) L ((x_l2i E v).1 :: r) (x_l2i E v).2] else none | [] => none) = some lst from hins)
    cases x_len b1
    split at b2
    · next v r =>
        split at b2
        · next ht =>
            cases b2
            exact x_w_l2i hx hb hd ht (nx _ _ _ _ _ _ _ (List.mem_singleton.mpr rfl))
        · cases b2
    · cases b2
  case dup =>
    obtain ⟨b1, b2⟩ := x_if_ok (show x_if (len == 1) (match (generalizing := false) st with | v :: r => if x_cat v = 1 then some [x_at m cc ss fs h (pc + 1) L (v :: v :: r) E] else none | [] => none) = some lst from hins)
    cases x_len b1
    split at b2
    · next v r =>
        split at b2
        · next ht =>
            cases b2
            exact x_w_dup hx hb hd ht (nx _ _ _ _ _ _ _ (List.mem_singleton.mpr rfl))
        · cases b2
    · cases b2
  case pop =>
    obtain ⟨b1, b2⟩ := x_if_ok (show x_if (len == 1) (match (generalizing := false) st with | v :: r => if x_cat v = 1 then some [x_at m cc ss fs h (pc + 1) L r E] else none | [] => none) = some lst from hins)
    cases x_len b1
    split at b2
    · next v r =>
        split at b2
        · next ht =>
            cases b2
            exact x_w_pop hx hb hd ht (nx _ _ _ _ _ _ _ (List.mem_singleton.mpr rfl))
        · cases b2
    · cases b2
  case dup2 =>
    obtain ⟨b1, b2⟩ := x_if_ok (show x_if (len == 1) (match (generalizing := false) st with | v :: w :: r => if x_cat v = 1 ∧ x_cat w = 1 then some [x_at m cc ss fs h (pc + 1) L (v :: w :: v :: w :: r) E] else none | _ => none) = some lst from hins)
    cases x_len b1
    split at b2
    · next v w r =>
        split at b2
        · next ht =>
            cases b2
            exact x_w_dup2 hx hb hd ht.1 ht.2 (nx _ _ _ _ _ _ _ (List.mem_singleton.mpr rfl))
        · cases b2
    · cases b2
  case ifCond cn off =>
    obtain ⟨b1, b2⟩ := x_if_ok (show x_if (len == 3) (match (generalizing := false) st with | v :: r => x_br m pc L cc ss fs h E cn v (0, none, 0) r off | [] => none) = some lst from hins)
    cases x_len b1
    split at b2
    · next v r =>
        unfold x_br at b2
        split at b2
        · next ht =>
            cases b2
            exact x_w_ifc hx hb hd ht.2.2 ht.1 (fun E9 hm => nx _ _ _ _ _ _ _ (List.mem_append_left _ (List.mem_map.mpr ⟨E9, hm, rfl⟩))) (fun E9 hm => nx _ _ _ _ _ _ _ (List.mem_append_right _ (List.mem_map.mpr ⟨E9, hm, rfl⟩)))
        · cases b2
    · cases b2
  case if_icmp cn off =>
    obtain ⟨b1, b2⟩ := x_if_ok (show x_if (len == 3) (match (generalizing := false) st with | w :: v :: r => x_br m pc L cc ss fs h E cn v w r off | _ => none) = some lst from hins)
    cases x_len b1
    split at b2
    · next w v r =>
        unfold x_br at b2
        split at b2
        · next ht =>
            cases b2
            exact x_w_icmp hx hb hd ht.2.2 ht.1 ht.2.1 (fun E9 hm => nx _ _ _ _ _ _ _ (List.mem_append_left _ (List.mem_map.mpr ⟨E9, hm, rfl⟩))) (fun E9 hm => nx _ _ _ _ _ _ _ (List.mem_append_right _ (List.mem_map.mpr ⟨E9, hm, rfl⟩)))
        · cases b2
    · cases b2
  case goto off =>
    obtain ⟨b1, b2⟩ := x_if_ok (show x_if (len == 3) (if 0 ≤ (pc : Int) + off then some [x_at m cc ss fs h ((pc : Int) + off).toNat L st E] else none) = some lst from hins)
    cases x_len b1
    split at b2
    · next ht =>
        cases b2
        exact x_w_goto hx hb hd ht (nx _ _ _ _ _ _ _ (List.mem_singleton.mpr rfl))
    · cases b2
  case tableswitch dflt lo hi offs =>
    have b2 : (match (generalizing := false) st with | v :: r => x_sw m pc L cc ss fs h E v r dflt lo hi offs.toList | [] => none) = some lst := hins
    split at b2
    · next v r =>
        unfold x_sw at b2
        split at b2
        · next ht =>
            cases b2
            refine x_w_sw hx hb hd ht.1 ht.2.1 (fun o ho => by simpa using List.all_eq_true.mp ht.2.2.1 o ho) ht.2.2.2 (fun hc => nx _ _ _ _ _ _ _ (List.mem_append_left _ (List.mem_append_left _ (by rw [if_pos hc]; exact List.mem_singleton.mpr rfl)))) (fun hc => nx _ _ _ _ _ _ _ (List.mem_append_left _ (List.mem_append_right _ (by rw [if_pos hc]; exact List.mem_singleton.mpr rfl)))) (fun k9 off hk hc => nx _ _ _ _ _ _ _ (List.mem_append_right _ (x_swI_mem (k := 0) hk (by rw [Nat.zero_add]; exact hc) (by rw [Nat.zero_add]; rfl))))
        · cases b2
    · cases b2
  case getfield idx =>
    obtain ⟨b1, b2⟩ := x_if_ok (show x_if (len == 3) (x_getf P m pc L st cc ss fs h E idx) = some lst from hins)
    cases x_len b1
    unfold x_getf at b2
    split at b2
    · next b9 k9 r =>
        split at b2
        · next ci f ci2 vs hp ho =>
            split at b2
            · next hc =>
                subst hc
                split at b2
                · next v hv =>
                    cases b2
                    have hpool := hOK.2.2.1 m idx
                    rw [hp] at hpool
                    exact x_w_get hx hb hown hts hOK.2.1 hpool hd ho hv (nx _ _ _ _ _ _ _ (List.mem_singleton.mpr rfl))
                · cases b2
            · cases b2
        · cases b2
    · cases b2
  case putfield idx =>
    obtain ⟨b1, b2⟩ := x_if_ok (show x_if (len == 3) (x_putf P m pc L st cc ss fs h E idx) = some lst from hins)
    cases x_len b1
    unfold x_putf at b2
    split at b2
    · next v b9 k9 r =>
        split at b2
        · next ci f ci2 vs hp ho =>
            split at b2
            · next hc =>
                obtain ⟨hc1, hc2⟩ := hc
                subst hc1
                split at b2
                · next kd hkd =>
                    split at b2
                    · next hf =>
                        cases b2
                        have hpool := hOK.2.2.1 m idx
                        rw [hp] at hpool
                        exact x_w_put hx hb hown hts hOK.2.1 hpool hd ho hc2 hkd hf.1 (hf.2.elim Or.inl (fun q => Or.inr ⟨hnm q.1, fun C hC => x_own hOK hpool hC q.1 q.2⟩)) (nx _ _ _ _ _ _ _ (List.mem_singleton.mpr rfl))
                    · cases b2
                · cases b2
            · cases b2
        · cases b2
    · cases b2
  case iaload =>
    obtain ⟨b1, b2⟩ := x_if_ok (show x_if (len == 1) (x_ald m pc L st cc ss fs h E 0 0) = some lst from hins)
    cases x_len b1
    unfold x_ald at b2
    split at b2
    · next i9 b9 k9 r =>
        split at b2
        · next a ho =>
            split at b2
            · next hc =>
                split at b2
                · next q hq =>
                    cases b2
                    exact x_w_ald hx hb hd hc.1 hc.2 ho (Or.inl ⟨rfl, rfl, hq⟩) (nx _ _ _ _ _ _ _ (List.mem_singleton.mpr rfl))
                · cases b2
            · cases b2
        · cases b2
    · next i9 b9 k9 r =>
        split at b2
        · next hc =>
            cases b2
            exact x_w_sld hx hb hd (hscr hc.2.1) hc.2.2.1 hc.2.2.2.1 hc.2.2.2.2.1 hc.2.2.2.2.2.1 hc.2.2.2.2.2.2 (nx _ _ _ _ _ _ _ (List.mem_singleton.mpr rfl))
        · cases b2
    · cases b2
  case laload =>
    obtain ⟨b1, b2⟩ := x_if_ok (show x_if (len == 1) (x_ald m pc L st cc ss fs h E 1 1) = some lst from hins)
    cases x_len b1
    unfold x_ald at b2
    split at b2
    · next i9 b9 k9 r =>
        split at b2
        · next a ho =>
            split at b2
            · next hc =>
                split at b2
                · next q hq =>
                    cases b2
                    exact x_w_ald hx hb hd hc.1 hc.2 ho (Or.inr (Or.inl ⟨rfl, rfl, hq⟩)) (nx _ _ _ _ _ _ _ (List.mem_singleton.mpr rfl))
                · cases b2
            · cases b2
        · cases b2
    · next i9 b9 k9 r =>
        split at b2
        · next hc =>
            cases b2
            exact absurd hc.1 (by decide)
        · cases b2
    · cases b2
  case baload =>
    obtain ⟨b1, b2⟩ := x_if_ok (show x_if (len == 1) (x_ald m pc L st cc ss fs h E 0 2) = some lst from hins)
    cases x_len b1
    unfold x_ald at b2
    split at b2
    · next i9 b9 k9 r =>
        split at b2
        · next a ho =>
            split at b2
            · next hc =>
                split at b2
                · next q hq =>
                    cases b2
                    exact x_w_ald hx hb hd hc.1 hc.2 ho (Or.inr (Or.inr ⟨rfl, rfl, hq⟩)) (nx _ _ _ _ _ _ _ (List.mem_singleton.mpr rfl))
                · cases b2
            · cases b2
        · cases b2
    · next i9 b9 k9 r =>
        split at b2
        · next hc =>
            cases b2
            exact absurd hc.1 (by decide)
        · cases b2
    · cases b2
  case iastore =>
    obtain ⟨b1, b2⟩ := x_if_ok (show x_if (len == 1) (x_ast m pc L st cc ss fs h E 0 0) = some lst from hins)
    cases x_len b1
    unfold x_ast at b2
    split at b2
    · next v i9 b9 k9 r =>
        split at b2
        · next a ho =>
            split at b2
            · next hc =>
                split at b2
                · next q hq =>
                    cases b2
                    exact x_w_ast hx hb hd hc.1 hc.2.2.1 ho (Or.inl ⟨rfl, rfl, hc.2.1, hq⟩) (nx _ _ _ _ _ _ _ (List.mem_singleton.mpr rfl))
                · cases b2
            · cases b2
        · cases b2
    · cases b2
  case lastore =>
    obtain ⟨b1, b2⟩ := x_if_ok (show x_if (len == 1) (x_ast m pc L st cc ss fs h E 1 1) = some lst from hins)
    cases x_len b1
    unfold x_ast at b2
    split at b2
    · next v i9 b9 k9 r =>
        split at b2
        · next a ho =>
            split at b2
            · next hc =>
                split at b2
                · next q hq =>
                    cases b2
                    exact x_w_ast hx hb hd hc.1 hc.2.2.1 ho (Or.inr (Or.inl ⟨rfl, rfl, hc.2.1, hq⟩)) (nx _ _ _ _ _ _ _ (List.mem_singleton.mpr rfl))
                · cases b2
            · cases b2
        · cases b2
    · cases b2
  case bastore =>
    obtain ⟨b1, b2⟩ := x_if_ok (show x_if (len == 1) (x_ast m pc L st cc ss fs h E 0 2) = some lst from hins)
    cases x_len b1
    unfold x_ast at b2
    split at b2
    · next v i9 b9 k9 r =>
        split at b2
        · next a ho =>
            split at b2
            · next hc =>
                split at b2
                · next q hq =>
                    cases b2
                    exact x_w_ast hx hb hd hc.1 hc.2.2.1 ho (Or.inr (Or.inr ⟨rfl, rfl, hc.2.1, hc.2.2.2 rfl, hq⟩)) (nx _ _ _ _ _ _ _ (List.mem_singleton.mpr rfl))
                · cases b2
            · cases b2
        · cases b2
    · cases b2
  case arraylength =>
    obtain ⟨b1, b2⟩ := x_if_ok (show x_if (len == 1) (x_alen m pc L st cc ss fs h E) = some lst from hins)
    cases x_len b1
    unfold x_alen at b2
    split at b2
    · next b9 k9 r =>
        split at b2
        · next a ho =>
            split at b2
            · next hc =>
                cases b2
                exact x_w_alen hx hb hd ho hc (nx _ _ _ _ _ _ _ (List.mem_singleton.mpr rfl))
            · cases b2
        · cases b2
    · next b9 k9 r =>
        split at b2
        · next hc =>
            cases b2
            exact x_w_slen hx hb hd (hscr hc) (nx _ _ _ _ _ _ _ (List.mem_singleton.mpr rfl))
        · cases b2
    · cases b2
  case newarray at9 =>
    obtain ⟨b1, b2⟩ := x_if_ok (show x_if (len == 2) (match (generalizing := false) at9 with | .int => x_newa P m pc L st cc ss fs h E 0 | .long => x_newa P m pc L st cc ss fs h E 1 | .boolean => x_newa P m pc L st cc ss fs h E 2 | _ => none) = some lst from hins)
    cases x_len b1
    have key : ∀ ty : Nat, (at9 = .int ∧ ty = 0 ∨ at9 = .long ∧ ty = 1 ∨ at9 = .boolean ∧ ty = 2) → x_newa P m pc L st cc ss fs h E ty = some lst → x_OKs p l e R s mid args below meth c Q D cl B0 sc (x_maxL P m) ρ0 ad0 pc L st cc ss h E := by
      intro ty hty b3
      unfold x_newa at b3
      split at b3
      · next n9 r =>
          split at b3
          · next hc =>
              cases b3
              exact x_w_newa hx hb hts hOK.2.2.2.1 hOK.2.2.2.2.1 hOK.2.2.2.2.2.1 hB hd hty hc.1 hc.2.1 (by omega) (by omega) (nx _ _ _ _ _ _ _ (List.mem_singleton.mpr rfl))
          · cases b3
      · cases b3
    cases at9 <;> first | exact key 0 (Or.inl ⟨rfl, rfl⟩) b2 | exact key 1 (Or.inr (Or.inl ⟨rfl, rfl⟩)) b2 | exact key 2 (Or.inr (Or.inr ⟨rfl, rfl⟩)) b2 | cases b2
  case new idx =>
    obtain ⟨b1, b2⟩ := x_if_ok (show x_if (len == 3) (x_new P m pc L st cc ss fs h E idx) = some lst from hins)
    cases x_len b1
    unfold x_new at b2
    split at b2
    · next ci z hp =>
        split at b2
        · next hc =>
            cases b2
            have hpool := hOK.2.2.1 m idx
            rw [hp] at hpool
            exact x_w_new hx hb hown hts hOK.2.1 hpool hB hd (by omega) (by omega) (nx _ _ _ _ _ _ _ (List.mem_singleton.mpr rfl))
        · cases b2
    · cases b2
  case invokevirtual idx =>
    obtain ⟨b1, b2⟩ := x_if_ok (show x_if (len == 3) (x_invV P m pc L st cc ss fs h E idx) = some lst from hins)
    cases x_len b1
    exact x_w_invV hOK hS hctx hd40 hscr hend hd b2 hall
  case invokespecial idx =>
    obtain ⟨b1, b2⟩ := x_if_ok (show x_if (len == 3) (x_invI P m pc L st cc ss fs h E idx) = some lst from hins)
    cases x_len b1
    exact x_w_invI hOK hS hctx hd40 hscr hend nx hd b2 hall
  case invokestatic idx =>
    obtain ⟨b1, b2⟩ := x_if_ok (show x_if (len == 3) (x_invS P m pc L st cc ss fs h E idx) = some lst from hins)
    cases x_len b1
    exact x_w_invS hOK hS hctx hd40 hscr hend nx hd b2 hall
  case ireturn => exact hend (k + 1) pc L st cc ss h E _ len (Nat.le_refl _) hcode (Or.inl rfl) hrun
  case lreturn => exact hend (k + 1) pc L st cc ss h E _ len (Nat.le_refl _) hcode (Or.inr (Or.inl rfl)) hrun
  case return_ => exact hend (k + 1) pc L st cc ss h E _ len (Nat.le_refl _) hcode (Or.inr (Or.inr rfl)) hrun
  all_goals exact absurd (show (none : Option (List xS)) = some lst from hins) (by simp)
end
section
def RX0 : String := "OwnChair$Errand"
def TX0 : u_T := fun k => match k with
  | 0 => ("OwnChair$Errand", "best", "[I", true)
  | 1 => ("OwnChair$Errand", "taken", "[I", true)
  | _ => ("OwnChair$Errand", "ways", "I", false)
def tyX0 : Nat → FieldType := fun k => match k with
  | 0 => .array .int
  | 1 => .array .int
  | _ => .int
theorem nmX0 : ∀ a, a < 3 → ∀ b, b < 3 → a ≠ b → (TX0 a).2.1 ≠ (TX0 b).2.1 := by decide +kernel
theorem tyX0_ok : ∀ k, k < 3 → parseFieldDescriptor (TX0 k).2.2.1 = some (tyX0 k) := by decide +kernel
def RX1 : String := "OwnChair$Formula"
def TX1 : u_T := fun k => match k with
  | 0 => ("OwnChair$Formula", "stack", "[I", true)
  | 1 => ("OwnChair$Formula", "steps", "[I", false)
  | _ => ("OwnChair$Formula", "size", "I", false)
def tyX1 : Nat → FieldType := fun k => match k with
  | 0 => .array .int
  | 1 => .array .int
  | _ => .int
theorem nmX1 : ∀ a, a < 3 → ∀ b, b < 3 → a ≠ b → (TX1 a).2.1 ≠ (TX1 b).2.1 := by decide +kernel
theorem tyX1_ok : ∀ k, k < 3 → parseFieldDescriptor (TX1 k).2.2.1 = some (tyX1 k) := by decide +kernel
def RX2 : String := "OwnChair$History"
def TX2 : u_T := fun k => match k with
  | 0 => ("OwnChair$History", "rows", "[I", true)
  | 1 => ("OwnChair$History", "newest", "I", false)
  | _ => ("OwnChair$History", "count", "I", false)
def tyX2 : Nat → FieldType := fun k => match k with
  | 0 => .array .int
  | 1 => .int
  | _ => .int
theorem nmX2 : ∀ a, a < 3 → ∀ b, b < 3 → a ≠ b → (TX2 a).2.1 ≠ (TX2 b).2.1 := by decide +kernel
theorem tyX2_ok : ∀ k, k < 3 → parseFieldDescriptor (TX2 k).2.2.1 = some (tyX2 k) := by decide +kernel
def RX3 : String := "OwnChair$Lexer"
def TX3 : u_T := fun k => match k with
  | 0 => ("OwnChair$Lexer", "text", "[I", false)
  | 1 => ("OwnChair$Lexer", "length", "I", false)
  | 2 => ("OwnChair$Lexer", "place", "I", false)
  | 3 => ("OwnChair$Lexer", "kind", "I", false)
  | 4 => ("OwnChair$Lexer", "value", "I", false)
  | 5 => ("OwnChair$Lexer", "start", "I", false)
  | 6 => ("OwnChair$Lexer", "fault", "I", false)
  | _ => ("OwnChair$Lexer", "faultPlace", "I", false)
def tyX3 : Nat → FieldType := fun k => match k with
  | 0 => .array .int
  | 1 => .int
  | 2 => .int
  | 3 => .int
  | 4 => .int
  | 5 => .int
  | 6 => .int
  | _ => .int
theorem nmX3 : ∀ a, a < 8 → ∀ b, b < 8 → a ≠ b → (TX3 a).2.1 ≠ (TX3 b).2.1 := by decide +kernel
theorem tyX3_ok : ∀ k, k < 8 → parseFieldDescriptor (TX3 k).2.2.1 = some (tyX3 k) := by decide +kernel
def RX4 : String := "OwnChair$Paths"
def TX4 : u_T := fun k => match k with
  | 0 => ("OwnChair$Paths", "price", "[I", true)
  | 1 => ("OwnChair$Paths", "who", "[I", true)
  | 2 => ("OwnChair$Paths", "left", "[I", true)
  | 3 => ("OwnChair$Paths", "path", "[I", true)
  | 4 => ("OwnChair$Paths", "start", "I", false)
  | 5 => ("OwnChair$Paths", "length", "I", false)
  | _ => ("OwnChair$Paths", "minutes", "I", false)
def tyX4 : Nat → FieldType := fun k => match k with
  | 0 => .array .int
  | 1 => .array .int
  | 2 => .array .int
  | 3 => .array .int
  | 4 => .int
  | 5 => .int
  | _ => .int
theorem nmX4 : ∀ a, a < 7 → ∀ b, b < 7 → a ≠ b → (TX4 a).2.1 ≠ (TX4 b).2.1 := by decide +kernel
theorem tyX4_ok : ∀ k, k < 7 → parseFieldDescriptor (TX4 k).2.2.1 = some (tyX4 k) := by decide +kernel
def RX5 : String := "OwnChair$Scene"
def TX5 : u_T := fun k => match k with
  | 0 => ("OwnChair$Scene", "town", "LOwnChair$Town;", false)
  | 1 => ("OwnChair$Scene", "draft", "LOwnChair$Town;", false)
  | 2 => ("OwnChair$Scene", "cells", "[I", true)
  | _ => ("OwnChair$Scene", "given", "[I", true)
def tyX5 : Nat → FieldType := fun k => match k with
  | 0 => .object "OwnChair$Town"
  | 1 => .object "OwnChair$Town"
  | 2 => .array .int
  | _ => .array .int
theorem nmX5 : ∀ a, a < 4 → ∀ b, b < 4 → a ≠ b → (TX5 a).2.1 ≠ (TX5 b).2.1 := by decide +kernel
theorem tyX5_ok : ∀ k, k < 4 → parseFieldDescriptor (TX5 k).2.2.1 = some (tyX5 k) := by decide +kernel
def RX6 : String := "OwnChair$Seating"
def TX6 : u_T := fun k => match k with
  | 0 => ("OwnChair$Seating", "wanted", "[I", true)
  | 1 => ("OwnChair$Seating", "step", "[I", true)
  | 2 => ("OwnChair$Seating", "before", "[I", true)
  | 3 => ("OwnChair$Seating", "after", "[I", true)
  | 4 => ("OwnChair$Seating", "fresh", "[I", true)
  | 5 => ("OwnChair$Seating", "waysIn", "[I", true)
  | 6 => ("OwnChair$Seating", "told", "Z", false)
  | _ => ("OwnChair$Seating", "states", "I", false)
def tyX6 : Nat → FieldType := fun k => match k with
  | 0 => .array .int
  | 1 => .array .int
  | 2 => .array .int
  | 3 => .array .int
  | 4 => .array .int
  | 5 => .array .int
  | 6 => .boolean
  | _ => .int
theorem nmX6 : ∀ a, a < 8 → ∀ b, b < 8 → a ≠ b → (TX6 a).2.1 ≠ (TX6 b).2.1 := by decide +kernel
theorem tyX6_ok : ∀ k, k < 8 → parseFieldDescriptor (TX6 k).2.2.1 = some (tyX6 k) := by decide +kernel
def RX7 : String := "OwnChair$SumReader"
def TX7 : u_T := fun k => match k with
  | _ => ("OwnChair$SumReader", "lexer", "LOwnChair$Lexer;", true)
def tyX7 : Nat → FieldType := fun k => match k with
  | _ => .object "OwnChair$Lexer"
theorem nmX7 : ∀ a, a < 1 → ∀ b, b < 1 → a ≠ b → (TX7 a).2.1 ≠ (TX7 b).2.1 := by decide +kernel
theorem tyX7_ok : ∀ k, k < 1 → parseFieldDescriptor (TX7 k).2.2.1 = some (tyX7 k) := by decide +kernel
def RX8 : String := "OwnChair$Tape"
def TX8 : u_T := fun k => match k with
  | 0 => ("OwnChair$Tape", "bytes", "[I", true)
  | _ => ("OwnChair$Tape", "length", "I", false)
def tyX8 : Nat → FieldType := fun k => match k with
  | 0 => .array .int
  | _ => .int
theorem nmX8 : ∀ a, a < 2 → ∀ b, b < 2 → a ≠ b → (TX8 a).2.1 ≠ (TX8 b).2.1 := by decide +kernel
theorem tyX8_ok : ∀ k, k < 2 → parseFieldDescriptor (TX8 k).2.2.1 = some (tyX8 k) := by decide +kernel
def RX9 : String := "OwnChair$Town"
def TX9 : u_T := fun k => match k with
  | 0 => ("OwnChair$Town", "rooms", "I", false)
  | 1 => ("OwnChair$Town", "people", "I", false)
  | 2 => ("OwnChair$Town", "breaks", "I", false)
  | 3 => ("OwnChair$Town", "carpenter", "I", false)
  | 4 => ("OwnChair$Town", "roomName", "[I", true)
  | 5 => ("OwnChair$Town", "door", "[I", true)
  | 6 => ("OwnChair$Town", "floor", "[I", true)
  | 7 => ("OwnChair$Town", "minutes", "[I", true)
  | 8 => ("OwnChair$Town", "personName", "[I", true)
  | 9 => ("OwnChair$Town", "strong", "[I", true)
  | 10 => ("OwnChair$Town", "weight", "[I", true)
  | 11 => ("OwnChair$Town", "width", "[I", true)
  | 12 => ("OwnChair$Town", "partner", "[I", true)
  | 13 => ("OwnChair$Town", "home", "[I", true)
  | 14 => ("OwnChair$Town", "slow", "LOwnChair$Formula;", true)
  | _ => ("OwnChair$Town", "stands", "LOwnChair$Formula;", true)
def tyX9 : Nat → FieldType := fun k => match k with
  | 0 => .int
  | 1 => .int
  | 2 => .int
  | 3 => .int
  | 4 => .array .int
  | 5 => .array .int
  | 6 => .array .int
  | 7 => .array .int
  | 8 => .array .int
  | 9 => .array .int
  | 10 => .array .int
  | 11 => .array .int
  | 12 => .array .int
  | 13 => .array .int
  | 14 => .object "OwnChair$Formula"
  | _ => .object "OwnChair$Formula"
theorem nmX9 : ∀ a, a < 16 → ∀ b, b < 16 → a ≠ b → (TX9 a).2.1 ≠ (TX9 b).2.1 := by decide +kernel
theorem tyX9_ok : ∀ k, k < 16 → parseFieldDescriptor (TX9 k).2.2.1 = some (tyX9 k) := by decide +kernel
def RX10 : String := "OwnChair$TownReader"
def TX10 : u_T := fun k => match k with
  | 0 => ("OwnChair$TownReader", "sums", "LOwnChair$SumReader;", true)
  | 1 => ("OwnChair$TownReader", "lexer", "LOwnChair$Lexer;", true)
  | _ => ("OwnChair$TownReader", "number", "I", false)
def tyX10 : Nat → FieldType := fun k => match k with
  | 0 => .object "OwnChair$SumReader"
  | 1 => .object "OwnChair$Lexer"
  | _ => .int
theorem nmX10 : ∀ a, a < 3 → ∀ b, b < 3 → a ≠ b → (TX10 a).2.1 ≠ (TX10 b).2.1 := by decide +kernel
theorem tyX10_ok : ∀ k, k < 3 → parseFieldDescriptor (TX10 k).2.2.1 = some (tyX10 k) := by decide +kernel
def RX11 : String := "OwnChair"
def TX11 : u_T := fun k => match k with
  | 0 => ("OwnChair", "tape", "LOwnChair$Tape;", true)
  | 1 => ("OwnChair", "reader", "LOwnChair$TownReader;", true)
  | 2 => ("OwnChair", "scene", "LOwnChair$Scene;", true)
  | 3 => ("OwnChair", "history", "LOwnChair$History;", true)
  | 4 => ("OwnChair", "paths", "LOwnChair$Paths;", true)
  | 5 => ("OwnChair", "plan", "LOwnChair$Errand;", true)
  | 6 => ("OwnChair", "seating", "LOwnChair$Seating;", true)
  | 7 => ("OwnChair", "refused", "[I", true)
  | 8 => ("OwnChair", "picture", "[I", true)
  | 9 => ("OwnChair", "pictureLength", "I", false)
  | 10 => ("OwnChair", "faultKind", "I", false)
  | 11 => ("OwnChair", "faultPlace", "I", false)
  | _ => ("OwnChair", "chance", "I", false)
def tyX11 : Nat → FieldType := fun k => match k with
  | 0 => .object "OwnChair$Tape"
  | 1 => .object "OwnChair$TownReader"
  | 2 => .object "OwnChair$Scene"
  | 3 => .object "OwnChair$History"
  | 4 => .object "OwnChair$Paths"
  | 5 => .object "OwnChair$Errand"
  | 6 => .object "OwnChair$Seating"
  | 7 => .array .int
  | 8 => .array .int
  | 9 => .int
  | 10 => .int
  | 11 => .int
  | _ => .int
theorem nmX11 : ∀ a, a < 13 → ∀ b, b < 13 → a ≠ b → (TX11 a).2.1 ≠ (TX11 b).2.1 := by decide +kernel
theorem tyX11_ok : ∀ k, k < 13 → parseFieldDescriptor (TX11 k).2.2.1 = some (tyX11 k) := by decide +kernel
def RX12 : String := "OwnChairModel"
def TX12 : u_T := fun k => match k with
  | 0 => ("OwnChairModel", "tape", "[I", true)
  | 1 => ("OwnChairModel", "taped", "I", false)
  | 2 => ("OwnChairModel", "size", "I", false)
  | 3 => ("OwnChairModel", "sign", "I", false)
  | 4 => ("OwnChairModel", "signAt", "I", false)
  | 5 => ("OwnChairModel", "signEnd", "I", false)
  | 6 => ("OwnChairModel", "value", "I", false)
  | 7 => ("OwnChairModel", "word", "J", false)
  | 8 => ("OwnChairModel", "ninth", "I", false)
  | 9 => ("OwnChairModel", "faultKind", "I", false)
  | 10 => ("OwnChairModel", "faultPlace", "I", false)
  | 11 => ("OwnChairModel", "toldKind", "I", false)
  | 12 => ("OwnChairModel", "toldPlace", "I", false)
  | 13 => ("OwnChairModel", "lexAt", "I", false)
  | 14 => ("OwnChairModel", "bank", "I", false)
  | 15 => ("OwnChairModel", "rooms", "[I", true)
  | 16 => ("OwnChairModel", "roomDoor", "[I", true)
  | 17 => ("OwnChairModel", "roomFloor", "[I", true)
  | 18 => ("OwnChairModel", "wayTakes", "[I", true)
  | 19 => ("OwnChairModel", "persons", "[I", true)
  | 20 => ("OwnChairModel", "personStrong", "[I", true)
  | 21 => ("OwnChairModel", "personWeight", "[I", true)
  | 22 => ("OwnChairModel", "personWide", "[I", true)
  | 23 => ("OwnChairModel", "personRoom", "[I", true)
  | 24 => ("OwnChairModel", "personJoined", "[I", true)
  | 25 => ("OwnChairModel", "slowFrom", "[I", true)
  | 26 => ("OwnChairModel", "slowBehind", "[I", true)
  | 27 => ("OwnChairModel", "standsFrom", "[I", true)
  | 28 => ("OwnChairModel", "standsBehind", "[I", true)
  | 29 => ("OwnChairModel", "breaking", "[I", true)
  | 30 => ("OwnChairModel", "carpenter", "[I", true)
  | 31 => ("OwnChairModel", "codeSort", "[I", true)
  | 32 => ("OwnChairModel", "codeValue", "[I", true)
  | 33 => ("OwnChairModel", "roomName", "[J", true)
  | 34 => ("OwnChairModel", "personName", "[J", true)
  | 35 => ("OwnChairModel", "codes", "I", false)
  | 36 => ("OwnChairModel", "in", "I", false)
  | 37 => ("OwnChairModel", "frame", "[I", true)
  | 38 => ("OwnChairModel", "phase", "[I", true)
  | 39 => ("OwnChairModel", "begins", "[Z", true)
  | 40 => ("OwnChairModel", "pair", "[I", true)
  | 41 => ("OwnChairModel", "base", "[I", true)
  | 42 => ("OwnChairModel", "deep", "I", false)
  | 43 => ("OwnChairModel", "open", "I", false)
  | 44 => ("OwnChairModel", "ops", "[I", true)
  | 45 => ("OwnChairModel", "opMany", "I", false)
  | 46 => ("OwnChairModel", "operand", "Z", false)
  | 47 => ("OwnChairModel", "refused", "[I", true)
  | 48 => ("OwnChairModel", "roomOf", "[I", true)
  | 49 => ("OwnChairModel", "chairOf", "[I", true)
  | 50 => ("OwnChairModel", "brokenOf", "[I", true)
  | 51 => ("OwnChairModel", "clockOf", "[I", true)
  | 52 => ("OwnChairModel", "acheOf", "[I", true)
  | 53 => ("OwnChairModel", "keptMany", "[I", true)
  | 54 => ("OwnChairModel", "keptWhose", "[I", true)
  | 55 => ("OwnChairModel", "keptBy", "[I", true)
  | 56 => ("OwnChairModel", "keptRoom", "[I", true)
  | 57 => ("OwnChairModel", "keptMinutes", "[I", true)
  | 58 => ("OwnChairModel", "undoFirst", "I", false)
  | 59 => ("OwnChairModel", "undos", "I", false)
  | 60 => ("OwnChairModel", "seeds", "J", false)
  | 61 => ("OwnChairModel", "stack", "[J", true)
  | 62 => ("OwnChairModel", "askedTakes", "I", false)
  | 63 => ("OwnChairModel", "askedChair", "I", false)
  | 64 => ("OwnChairModel", "askedPerson", "I", false)
  | 65 => ("OwnChairModel", "stepOf", "[I", true)
  | 66 => ("OwnChairModel", "stepBy", "[I", true)
  | 67 => ("OwnChairModel", "restOf", "[I", true)
  | 68 => ("OwnChairModel", "alongMany", "I", false)
  | 69 => ("OwnChairModel", "alongRow", "[I", true)
  | 70 => ("OwnChairModel", "isTold", "Z", false)
  | 71 => ("OwnChairModel", "whereOf", "[I", true)
  | 72 => ("OwnChairModel", "rows", "I", false)
  | 73 => ("OwnChairModel", "rowRoom", "[I", true)
  | 74 => ("OwnChairModel", "rowMany", "[I", true)
  | 75 => ("OwnChairModel", "ways", "[I", true)
  | 76 => ("OwnChairModel", "then", "[I", true)
  | 77 => ("OwnChairModel", "digitOf", "[I", true)
  | 78 => ("OwnChairModel", "out", "[I", true)
  | _ => ("OwnChairModel", "outs", "I", false)
def tyX12 : Nat → FieldType := fun k => match k with
  | 0 => .array .int
  | 1 => .int
  | 2 => .int
  | 3 => .int
  | 4 => .int
  | 5 => .int
  | 6 => .int
  | 7 => .long
  | 8 => .int
  | 9 => .int
  | 10 => .int
  | 11 => .int
  | 12 => .int
  | 13 => .int
  | 14 => .int
  | 15 => .array .int
  | 16 => .array .int
  | 17 => .array .int
  | 18 => .array .int
  | 19 => .array .int
  | 20 => .array .int
  | 21 => .array .int
  | 22 => .array .int
  | 23 => .array .int
  | 24 => .array .int
  | 25 => .array .int
  | 26 => .array .int
  | 27 => .array .int
  | 28 => .array .int
  | 29 => .array .int
  | 30 => .array .int
  | 31 => .array .int
  | 32 => .array .int
  | 33 => .array .long
  | 34 => .array .long
  | 35 => .int
  | 36 => .int
  | 37 => .array .int
  | 38 => .array .int
  | 39 => .array .boolean
  | 40 => .array .int
  | 41 => .array .int
  | 42 => .int
  | 43 => .int
  | 44 => .array .int
  | 45 => .int
  | 46 => .boolean
  | 47 => .array .int
  | 48 => .array .int
  | 49 => .array .int
  | 50 => .array .int
  | 51 => .array .int
  | 52 => .array .int
  | 53 => .array .int
  | 54 => .array .int
  | 55 => .array .int
  | 56 => .array .int
  | 57 => .array .int
  | 58 => .int
  | 59 => .int
  | 60 => .long
  | 61 => .array .long
  | 62 => .int
  | 63 => .int
  | 64 => .int
  | 65 => .array .int
  | 66 => .array .int
  | 67 => .array .int
  | 68 => .int
  | 69 => .array .int
  | 70 => .boolean
  | 71 => .array .int
  | 72 => .int
  | 73 => .array .int
  | 74 => .array .int
  | 75 => .array .int
  | 76 => .array .int
  | 77 => .array .int
  | 78 => .array .int
  | _ => .int
theorem nmX12 : ∀ a, a < 80 → ∀ b, b < 80 → a ≠ b → (TX12 a).2.1 ≠ (TX12 b).2.1 := by decide +kernel
theorem tyX12_ok : ∀ k, k < 80 → parseFieldDescriptor (TX12 k).2.2.1 = some (tyX12 k) := by decide +kernel
def k_cl : List vw_C := [(RX0, TX0, 3), (RX1, TX1, 3), (RX2, TX2, 3), (RX3, TX3, 8), (RX4, TX4, 7), (RX5, TX5, 4), (RX6, TX6, 8), (RX7, TX7, 1), (RX8, TX8, 2), (RX9, TX9, 16), (RX10, TX10, 3), (RX11, TX11, 13), (RX12, TX12, 80)]
def k_cls : List (List Nat) := [[12, 12, 0], [12, 2, 0], [12, 0, 0], [2, 0, 0, 0, 0, 0, 0, 0], [12, 12, 12, 12, 0, 0, 0], [2, 2, 12, 12], [12, 12, 12, 12, 12, 12, 3, 0], [12], [12, 0], [0, 0, 0, 0, 12, 12, 12, 12, 12, 12, 12, 12, 12, 12, 12, 12], [12, 12, 0], [12, 12, 12, 12, 12, 12, 12, 12, 12, 0, 0, 0, 0], [12, 0, 0, 0, 0, 0, 0, 1, 0, 0, 0, 0, 0, 0, 0, 12, 12, 12, 12, 12, 12, 12, 12, 12, 12, 12, 12, 12, 12, 12, 12, 12, 12, 12, 12, 0, 0, 12, 12, 12, 12, 12, 0, 0, 12, 0, 3, 12, 12, 12, 12, 12, 12, 12, 12, 12, 12, 12, 0, 0, 1, 12, 0, 0, 0, 12, 12, 12, 0, 12, 3, 12, 0, 12, 12, 12, 12, 12, 12, 0]]
abbrev xR : Type := List (List (Nat × Instr × Nat)) × List (Nat × Nat × Nat × Int) × (Nat × Nat × Nat × Nat × Nat) × MethodName × ByteArray × Option FieldType
def k_none : xR := ([], [], (0, 0, 0, 0, 0), ⟨"", "", ""⟩, ByteArray.empty, none)
def k_find {α : Type} : List (Nat × α) → Nat → Option α
  | [], _ => none
  | q :: l, i => match Nat.beq q.1 i with
    | true => some q.2
    | false => k_find l i
def RJx8e188 : String := "java/lang/Cloneable"
def RJ6 : String := "java/lang/Integer"
def RJ9 : String := "java/lang/Math"
def RJ10 : String := "java/lang/System"
def RJ7 : String := "java/util/Arrays"
def RL : String := "OwnChairLaw"
abbrev cL_law : ByteArray := code
def yL_law : MethodName := ⟨RL, "law", "([I)Z"⟩
def kc_0 : List (List (Nat × Instr × Nat)) := [[(0, .new 7, 3), (3, .dup, 1), (4, .invokespecial 9, 3), (7, .astore_n 1, 1), (8, .new 10, 3), (11, .dup, 1), (12, .invokespecial 12, 3), (15, .astore_n 2, 1)], [(16, .iconst 0, 1), (17, .istore_n 3, 1), (18, .iload_n 3, 1), (19, .aload_n 0, 1), (20, .arraylength, 1), (21, .bipush 6, 2), (23, .isub, 1), (24, .if_icmp .gt 1003, 3), (27, .aload_n 0, 1), (28, .iload_n 3, 1), (29, .iaload, 1), (30, .bipush 31, 2)], [(32, .iand, 1), (33, .tableswitch 988 0 28 #[131, 194, 217, 230, 253, 276, 319, 352, 385, 418, 451, 494, 537, 570, 603, 626, 639, 662, 695, 748, 791, 814, 837, 870, 883, 916, 929, 952, 965], 131)], [], [], [], [], [], [], [], [(164, .aload_n 1, 1), (165, .aload_n 0, 1), (166, .iload_n 3, 1), (167, .iconst 1, 1), (168, .iadd, 1), (169, .iaload, 1), (170, .aload_n 0, 1), (171, .iload_n 3, 1), (172, .iconst 2, 1), (173, .iadd, 1), (174, .iaload, 1), (175, .aload_n 0, 1)], [(176, .iload_n 3, 1), (177, .iconst 3, 1), (178, .iadd, 1), (179, .iaload, 1), (180, .aload_n 0, 1), (181, .iload_n 3, 1), (182, .iconst 4, 1), (183, .iadd, 1), (184, .iaload, 1), (185, .aload_n 0, 1), (186, .iload_n 3, 1), (187, .iconst 5, 1), (188, .iadd, 1), (189, .iaload, 1), (190, .invokevirtual 13, 3)], [(193, .aload_n 2, 1), (194, .aload_n 0, 1), (195, .iload_n 3, 1), (196, .iconst 1, 1), (197, .iadd, 1), (198, .iaload, 1), (199, .aload_n 0, 1), (200, .iload_n 3, 1), (201, .iconst 2, 1), (202, .iadd, 1), (203, .iaload, 1), (204, .aload_n 0, 1), (205, .iload_n 3, 1), (206, .iconst 3, 1), (207, .iadd, 1)], [(208, .iaload, 1), (209, .aload_n 0, 1), (210, .iload_n 3, 1), (211, .iconst 4, 1), (212, .iadd, 1), (213, .iaload, 1), (214, .aload_n 0, 1), (215, .iload_n 3, 1), (216, .iconst 5, 1), (217, .iadd, 1), (218, .iaload, 1), (219, .invokevirtual 17, 3), (222, .if_icmp .eq 799, 3)], [(225, .iconst 0, 1), (226, .ireturn, 1), (227, .aload_n 1, 1), (228, .aload_n 0, 1), (229, .iload_n 3, 1), (230, .iconst 1, 1), (231, .iadd, 1), (232, .iaload, 1), (233, .invokevirtual 18, 3), (236, .aload_n 2, 1), (237, .aload_n 0, 1), (238, .iload_n 3, 1), (239, .iconst 1, 1)], [(240, .iadd, 1), (241, .iaload, 1), (242, .invokevirtual 22, 3), (245, .if_icmp .eq 776, 3), (248, .iconst 0, 1), (249, .ireturn, 1), (250, .aload_n 1, 1), (251, .invokevirtual 23, 3), (254, .aload_n 2, 1), (255, .invokevirtual 27, 3)], [(258, .if_icmp .eq 763, 3), (261, .iconst 0, 1), (262, .ireturn, 1), (263, .aload_n 1, 1), (264, .aload_n 0, 1), (265, .iload_n 3, 1), (266, .iconst 1, 1), (267, .iadd, 1), (268, .iaload, 1), (269, .invokevirtual 28, 3)], [(272, .aload_n 2, 1), (273, .aload_n 0, 1), (274, .iload_n 3, 1), (275, .iconst 1, 1), (276, .iadd, 1), (277, .iaload, 1), (278, .invokevirtual 32, 3), (281, .if_icmp .eq 740, 3), (284, .iconst 0, 1), (285, .ireturn, 1), (286, .aload_n 1, 1), (287, .aload_n 0, 1)], [(288, .iload_n 3, 1), (289, .iconst 1, 1), (290, .iadd, 1), (291, .iaload, 1), (292, .invokevirtual 33, 3), (295, .aload_n 2, 1), (296, .aload_n 0, 1), (297, .iload_n 3, 1), (298, .iconst 1, 1), (299, .iadd, 1), (300, .iaload, 1), (301, .invokevirtual 36, 3)], [(304, .if_icmp .eq 717, 3), (307, .iconst 0, 1), (308, .ireturn, 1), (309, .aload_n 1, 1), (310, .aload_n 0, 1), (311, .iload_n 3, 1), (312, .iconst 1, 1), (313, .iadd, 1), (314, .iaload, 1), (315, .aload_n 0, 1), (316, .iload_n 3, 1), (317, .iconst 2, 1), (318, .iadd, 1), (319, .iaload, 1)], [(320, .aload_n 0, 1), (321, .iload_n 3, 1), (322, .iconst 3, 1), (323, .iadd, 1), (324, .iaload, 1), (325, .invokevirtual 37, 3), (328, .aload_n 2, 1), (329, .aload_n 0, 1), (330, .iload_n 3, 1), (331, .iconst 1, 1), (332, .iadd, 1), (333, .iaload, 1), (334, .aload_n 0, 1), (335, .iload_n 3, 1)], [(336, .iconst 2, 1), (337, .iadd, 1), (338, .iaload, 1), (339, .aload_n 0, 1), (340, .iload_n 3, 1), (341, .iconst 3, 1), (342, .iadd, 1), (343, .iaload, 1), (344, .invokevirtual 41, 3), (347, .if_icmp .eq 674, 3), (350, .iconst 0, 1), (351, .ireturn, 1)], [(352, .aload_n 1, 1), (353, .aload_n 0, 1), (354, .iload_n 3, 1), (355, .iconst 1, 1), (356, .iadd, 1), (357, .iaload, 1), (358, .aload_n 0, 1), (359, .iload_n 3, 1), (360, .iconst 2, 1), (361, .iadd, 1), (362, .iaload, 1), (363, .invokevirtual 42, 3), (366, .aload_n 2, 1), (367, .aload_n 0, 1)], [(368, .iload_n 3, 1), (369, .iconst 1, 1), (370, .iadd, 1), (371, .iaload, 1), (372, .aload_n 0, 1), (373, .iload_n 3, 1), (374, .iconst 2, 1), (375, .iadd, 1), (376, .iaload, 1), (377, .invokevirtual 46, 3), (380, .if_icmp .eq 641, 3), (383, .iconst 0, 1)], [(384, .ireturn, 1), (385, .aload_n 1, 1), (386, .aload_n 0, 1), (387, .iload_n 3, 1), (388, .iconst 1, 1), (389, .iadd, 1), (390, .iaload, 1), (391, .aload_n 0, 1), (392, .iload_n 3, 1), (393, .iconst 2, 1), (394, .iadd, 1), (395, .iaload, 1), (396, .invokevirtual 47, 3), (399, .aload_n 2, 1)], [(400, .aload_n 0, 1), (401, .iload_n 3, 1), (402, .iconst 1, 1), (403, .iadd, 1), (404, .iaload, 1), (405, .aload_n 0, 1), (406, .iload_n 3, 1), (407, .iconst 2, 1), (408, .iadd, 1), (409, .iaload, 1), (410, .invokevirtual 50, 3), (413, .if_icmp .eq 608, 3)], [(416, .iconst 0, 1), (417, .ireturn, 1), (418, .aload_n 1, 1), (419, .aload_n 0, 1), (420, .iload_n 3, 1), (421, .iconst 1, 1), (422, .iadd, 1), (423, .iaload, 1), (424, .aload_n 0, 1), (425, .iload_n 3, 1), (426, .iconst 2, 1), (427, .iadd, 1), (428, .iaload, 1), (429, .invokevirtual 51, 3)], [(432, .aload_n 2, 1), (433, .aload_n 0, 1), (434, .iload_n 3, 1), (435, .iconst 1, 1), (436, .iadd, 1), (437, .iaload, 1), (438, .aload_n 0, 1), (439, .iload_n 3, 1), (440, .iconst 2, 1), (441, .iadd, 1), (442, .iaload, 1), (443, .invokevirtual 54, 3), (446, .if_icmp .eq 575, 3)], [(449, .iconst 0, 1), (450, .ireturn, 1), (451, .aload_n 1, 1), (452, .aload_n 0, 1), (453, .iload_n 3, 1), (454, .iconst 1, 1), (455, .iadd, 1), (456, .iaload, 1), (457, .aload_n 0, 1), (458, .iload_n 3, 1), (459, .iconst 2, 1), (460, .iadd, 1), (461, .iaload, 1), (462, .invokevirtual 55, 3)], [(465, .aload_n 2, 1), (466, .aload_n 0, 1), (467, .iload_n 3, 1), (468, .iconst 1, 1), (469, .iadd, 1), (470, .iaload, 1), (471, .aload_n 0, 1), (472, .iload_n 3, 1), (473, .iconst 2, 1), (474, .iadd, 1), (475, .iaload, 1), (476, .invokevirtual 58, 3), (479, .if_icmp .eq 542, 3)], [(482, .iconst 0, 1), (483, .ireturn, 1), (484, .aload_n 1, 1), (485, .aload_n 0, 1), (486, .iload_n 3, 1), (487, .iconst 1, 1), (488, .iadd, 1), (489, .iaload, 1), (490, .aload_n 0, 1), (491, .iload_n 3, 1), (492, .iconst 2, 1), (493, .iadd, 1), (494, .iaload, 1), (495, .aload_n 0, 1)], [(496, .iload_n 3, 1), (497, .iconst 3, 1), (498, .iadd, 1), (499, .iaload, 1), (500, .invokevirtual 59, 3), (503, .aload_n 2, 1), (504, .aload_n 0, 1), (505, .iload_n 3, 1), (506, .iconst 1, 1), (507, .iadd, 1), (508, .iaload, 1), (509, .aload_n 0, 1), (510, .iload_n 3, 1), (511, .iconst 2, 1)], [(512, .iadd, 1), (513, .iaload, 1), (514, .aload_n 0, 1), (515, .iload_n 3, 1), (516, .iconst 3, 1), (517, .iadd, 1), (518, .iaload, 1), (519, .invokevirtual 62, 3), (522, .if_icmp .eq 499, 3), (525, .iconst 0, 1), (526, .ireturn, 1), (527, .aload_n 1, 1)], [(528, .aload_n 0, 1), (529, .iload_n 3, 1), (530, .iconst 1, 1), (531, .iadd, 1), (532, .iaload, 1), (533, .aload_n 0, 1), (534, .iload_n 3, 1), (535, .iconst 2, 1), (536, .iadd, 1), (537, .iaload, 1), (538, .aload_n 0, 1), (539, .iload_n 3, 1), (540, .iconst 3, 1), (541, .iadd, 1), (542, .iaload, 1), (543, .invokevirtual 63, 3)], [(546, .aload_n 2, 1), (547, .aload_n 0, 1), (548, .iload_n 3, 1), (549, .iconst 1, 1), (550, .iadd, 1), (551, .iaload, 1), (552, .aload_n 0, 1), (553, .iload_n 3, 1), (554, .iconst 2, 1), (555, .iadd, 1), (556, .iaload, 1), (557, .aload_n 0, 1), (558, .iload_n 3, 1), (559, .iconst 3, 1)], [(560, .iadd, 1), (561, .iaload, 1), (562, .invokevirtual 66, 3), (565, .if_icmp .eq 456, 3), (568, .iconst 0, 1), (569, .ireturn, 1), (570, .aload_n 1, 1), (571, .aload_n 0, 1), (572, .iload_n 3, 1), (573, .iconst 1, 1), (574, .iadd, 1), (575, .iaload, 1)], [(576, .aload_n 0, 1), (577, .iload_n 3, 1), (578, .iconst 2, 1), (579, .iadd, 1), (580, .iaload, 1), (581, .invokevirtual 67, 3), (584, .aload_n 2, 1), (585, .aload_n 0, 1), (586, .iload_n 3, 1), (587, .iconst 1, 1), (588, .iadd, 1), (589, .iaload, 1), (590, .aload_n 0, 1), (591, .iload_n 3, 1)], [(592, .iconst 2, 1), (593, .iadd, 1), (594, .iaload, 1), (595, .invokevirtual 70, 3), (598, .if_icmp .eq 423, 3), (601, .iconst 0, 1), (602, .ireturn, 1), (603, .aload_n 1, 1), (604, .aload_n 0, 1), (605, .iload_n 3, 1), (606, .iconst 1, 1), (607, .iadd, 1)], [(608, .iaload, 1), (609, .aload_n 0, 1), (610, .iload_n 3, 1), (611, .iconst 2, 1), (612, .iadd, 1), (613, .iaload, 1), (614, .invokevirtual 71, 3), (617, .aload_n 2, 1), (618, .aload_n 0, 1), (619, .iload_n 3, 1), (620, .iconst 1, 1), (621, .iadd, 1), (622, .iaload, 1), (623, .aload_n 0, 1)], [(624, .iload_n 3, 1), (625, .iconst 2, 1), (626, .iadd, 1), (627, .iaload, 1), (628, .invokevirtual 75, 3), (631, .if_icmp .eq 390, 3), (634, .iconst 0, 1), (635, .ireturn, 1), (636, .aload_n 1, 1), (637, .aload_n 0, 1), (638, .iload_n 3, 1), (639, .iconst 1, 1)], [(640, .iadd, 1), (641, .iaload, 1), (642, .invokevirtual 76, 3), (645, .aload_n 2, 1), (646, .aload_n 0, 1), (647, .iload_n 3, 1), (648, .iconst 1, 1), (649, .iadd, 1), (650, .iaload, 1), (651, .invokevirtual 79, 3), (654, .if_icmp .eq 367, 3)], [(657, .iconst 0, 1), (658, .ireturn, 1), (659, .aload_n 1, 1), (660, .invokevirtual 80, 3), (663, .aload_n 2, 1), (664, .invokevirtual 84, 3), (667, .if_icmp .eq 354, 3), (670, .iconst 0, 1), (671, .ireturn, 1)], [(672, .aload_n 1, 1), (673, .aload_n 0, 1), (674, .iload_n 3, 1), (675, .iconst 1, 1), (676, .iadd, 1), (677, .iaload, 1), (678, .invokevirtual 85, 3), (681, .aload_n 2, 1), (682, .aload_n 0, 1), (683, .iload_n 3, 1), (684, .iconst 1, 1), (685, .iadd, 1), (686, .iaload, 1), (687, .invokevirtual 88, 3)], [(690, .if_icmp .eq 331, 3), (693, .iconst 0, 1), (694, .ireturn, 1), (695, .aload_n 1, 1), (696, .aload_n 0, 1), (697, .iload_n 3, 1), (698, .iconst 1, 1), (699, .iadd, 1), (700, .iaload, 1), (701, .aload_n 0, 1), (702, .iload_n 3, 1), (703, .iconst 2, 1)], [(704, .iadd, 1), (705, .iaload, 1), (706, .invokevirtual 89, 3), (709, .aload_n 2, 1), (710, .aload_n 0, 1), (711, .iload_n 3, 1), (712, .iconst 1, 1), (713, .iadd, 1), (714, .iaload, 1), (715, .aload_n 0, 1), (716, .iload_n 3, 1), (717, .iconst 2, 1), (718, .iadd, 1), (719, .iaload, 1)], [(720, .invokevirtual 92, 3), (723, .if_icmp .eq 298, 3), (726, .iconst 0, 1), (727, .ireturn, 1), (728, .aload_n 1, 1), (729, .aload_n 0, 1), (730, .iload_n 3, 1), (731, .iconst 1, 1), (732, .iadd, 1), (733, .iaload, 1), (734, .aload_n 0, 1), (735, .iload_n 3, 1)], [(736, .iconst 2, 1), (737, .iadd, 1), (738, .iaload, 1), (739, .aload_n 0, 1), (740, .iload_n 3, 1), (741, .iconst 3, 1), (742, .iadd, 1), (743, .iaload, 1), (744, .aload_n 0, 1), (745, .iload_n 3, 1), (746, .iconst 4, 1), (747, .iadd, 1), (748, .iaload, 1), (749, .invokevirtual 93, 3)], [(752, .aload_n 2, 1), (753, .aload_n 0, 1), (754, .iload_n 3, 1), (755, .iconst 1, 1), (756, .iadd, 1), (757, .iaload, 1), (758, .aload_n 0, 1), (759, .iload_n 3, 1), (760, .iconst 2, 1), (761, .iadd, 1), (762, .iaload, 1), (763, .aload_n 0, 1), (764, .iload_n 3, 1), (765, .iconst 3, 1), (766, .iadd, 1), (767, .iaload, 1)], [(768, .aload_n 0, 1), (769, .iload_n 3, 1), (770, .iconst 4, 1), (771, .iadd, 1), (772, .iaload, 1), (773, .invokevirtual 97, 3), (776, .if_icmp .eq 245, 3), (779, .iconst 0, 1), (780, .ireturn, 1), (781, .aload_n 1, 1), (782, .aload_n 0, 1), (783, .iload_n 3, 1)], [(784, .iconst 1, 1), (785, .iadd, 1), (786, .iaload, 1), (787, .aload_n 0, 1), (788, .iload_n 3, 1), (789, .iconst 2, 1), (790, .iadd, 1), (791, .iaload, 1), (792, .aload_n 0, 1), (793, .iload_n 3, 1), (794, .iconst 3, 1), (795, .iadd, 1), (796, .iaload, 1), (797, .invokevirtual 98, 3)], [(800, .aload_n 2, 1), (801, .aload_n 0, 1), (802, .iload_n 3, 1), (803, .iconst 1, 1), (804, .iadd, 1), (805, .iaload, 1), (806, .aload_n 0, 1), (807, .iload_n 3, 1), (808, .iconst 2, 1), (809, .iadd, 1), (810, .iaload, 1), (811, .aload_n 0, 1), (812, .iload_n 3, 1), (813, .iconst 3, 1), (814, .iadd, 1), (815, .iaload, 1)], [(816, .invokevirtual 101, 3), (819, .if_icmp .eq 202, 3), (822, .iconst 0, 1), (823, .ireturn, 1), (824, .aload_n 1, 1), (825, .aload_n 0, 1), (826, .iload_n 3, 1), (827, .iconst 1, 1), (828, .iadd, 1), (829, .iaload, 1), (830, .invokevirtual 102, 3)], [(833, .aload_n 2, 1), (834, .aload_n 0, 1), (835, .iload_n 3, 1), (836, .iconst 1, 1), (837, .iadd, 1), (838, .iaload, 1), (839, .invokevirtual 105, 3), (842, .if_icmp .eq 179, 3), (845, .iconst 0, 1), (846, .ireturn, 1), (847, .aload_n 1, 1)], [(848, .aload_n 0, 1), (849, .iload_n 3, 1), (850, .iconst 1, 1), (851, .iadd, 1), (852, .iaload, 1), (853, .invokevirtual 106, 3), (856, .aload_n 2, 1), (857, .aload_n 0, 1), (858, .iload_n 3, 1), (859, .iconst 1, 1), (860, .iadd, 1), (861, .iaload, 1), (862, .invokevirtual 109, 3)], [(865, .if_icmp .eq 156, 3), (868, .iconst 0, 1), (869, .ireturn, 1), (870, .aload_n 1, 1), (871, .aload_n 0, 1), (872, .iload_n 3, 1), (873, .iconst 1, 1), (874, .iadd, 1), (875, .iaload, 1), (876, .aload_n 0, 1), (877, .iload_n 3, 1), (878, .iconst 2, 1), (879, .iadd, 1)], [(880, .iaload, 1), (881, .invokevirtual 110, 3), (884, .aload_n 2, 1), (885, .aload_n 0, 1), (886, .iload_n 3, 1), (887, .iconst 1, 1), (888, .iadd, 1), (889, .iaload, 1), (890, .aload_n 0, 1), (891, .iload_n 3, 1), (892, .iconst 2, 1), (893, .iadd, 1), (894, .iaload, 1), (895, .invokevirtual 113, 3)], [(898, .if_icmp .eq 123, 3), (901, .iconst 0, 1), (902, .ireturn, 1), (903, .aload_n 1, 1), (904, .invokevirtual 114, 3), (907, .aload_n 2, 1), (908, .invokevirtual 117, 3), (911, .if_icmp .eq 110, 3)], [(914, .iconst 0, 1), (915, .ireturn, 1), (916, .aload_n 1, 1), (917, .aload_n 0, 1), (918, .iload_n 3, 1), (919, .iconst 1, 1), (920, .iadd, 1), (921, .iaload, 1), (922, .aload_n 0, 1), (923, .iload_n 3, 1), (924, .iconst 2, 1), (925, .iadd, 1), (926, .iaload, 1), (927, .invokevirtual 118, 3)], [(930, .aload_n 2, 1), (931, .aload_n 0, 1), (932, .iload_n 3, 1), (933, .iconst 1, 1), (934, .iadd, 1), (935, .iaload, 1), (936, .aload_n 0, 1), (937, .iload_n 3, 1), (938, .iconst 2, 1), (939, .iadd, 1), (940, .iaload, 1), (941, .invokevirtual 121, 3)], [(944, .if_icmp .eq 77, 3), (947, .iconst 0, 1), (948, .ireturn, 1), (949, .aload_n 1, 1), (950, .invokevirtual 122, 3), (953, .aload_n 2, 1), (954, .invokevirtual 125, 3), (957, .if_icmp .eq 64, 3)], [(960, .iconst 0, 1), (961, .ireturn, 1), (962, .aload_n 1, 1), (963, .aload_n 0, 1), (964, .iload_n 3, 1), (965, .iconst 1, 1), (966, .iadd, 1), (967, .iaload, 1), (968, .invokevirtual 126, 3), (971, .aload_n 2, 1), (972, .aload_n 0, 1), (973, .iload_n 3, 1), (974, .iconst 1, 1), (975, .iadd, 1)], [(976, .iaload, 1), (977, .invokevirtual 129, 3), (980, .if_icmp .eq 41, 3), (983, .iconst 0, 1), (984, .ireturn, 1), (985, .aload_n 1, 1), (986, .invokevirtual 130, 3), (989, .aload_n 2, 1), (990, .invokevirtual 133, 3)], [(993, .if_icmp .eq 28, 3), (996, .iconst 0, 1), (997, .ireturn, 1), (998, .aload_n 1, 1), (999, .aload_n 0, 1), (1000, .iload_n 3, 1), (1001, .iconst 1, 1), (1002, .iadd, 1), (1003, .iaload, 1), (1004, .invokevirtual 134, 3), (1007, .aload_n 2, 1)], [(1008, .aload_n 0, 1), (1009, .iload_n 3, 1), (1010, .iconst 1, 1), (1011, .iadd, 1), (1012, .iaload, 1), (1013, .invokevirtual 137, 3), (1016, .if_icmp .eq 5, 3), (1019, .iconst 0, 1), (1020, .ireturn, 1), (1021, .iinc 3 6, 3)], [(1024, .goto (-1006), 3), (1027, .iconst 1, 1), (1028, .ireturn, 1)]]
def kp_0 : List (Nat × Nat × Nat × Int) := [(7, 9, 11, 0), (9, 3, 135, 0), (10, 9, 12, 0), (12, 3, 171, 0), (13, 2, 136, 5), (17, 2, 174, 5), (18, 2, 137, 1), (22, 2, 175, 1), (23, 2, 138, 0), (27, 2, 216, 0), (28, 2, 139, 1), (32, 2, 217, 1), (33, 2, 140, 1), (36, 2, 246, 1), (37, 2, 141, 3), (41, 2, 247, 3), (42, 2, 142, 2), (46, 2, 248, 2), (47, 2, 143, 2), (50, 2, 249, 2), (51, 2, 144, 2), (54, 2, 250, 2), (55, 2, 145, 2), (58, 2, 251, 2), (59, 2, 146, 3), (62, 2, 255, 3), (63, 2, 147, 3), (66, 2, 260, 3), (67, 2, 148, 2), (70, 2, 262, 2), (71, 2, 149, 2), (75, 2, 263, 2), (76, 2, 150, 1), (79, 2, 266, 1), (80, 2, 151, 0), (84, 2, 228, 0), (85, 2, 152, 1), (88, 2, 267, 1), (89, 2, 153, 2), (92, 2, 268, 2), (93, 2, 154, 4), (97, 2, 273, 4), (98, 2, 155, 3), (101, 2, 274, 3), (102, 2, 156, 1), (105, 2, 277, 1), (106, 2, 157, 1), (109, 2, 278, 1), (110, 2, 158, 2), (113, 2, 280, 2), (114, 2, 159, 0), (117, 2, 284, 0), (118, 2, 160, 2), (121, 2, 285, 2), (122, 2, 161, 0), (125, 2, 288, 0), (126, 2, 162, 1), (129, 2, 289, 1), (130, 2, 163, 0), (133, 2, 293, 0), (134, 2, 164, 1), (137, 2, 219, 1)]
def kr_0 : xR := (kc_0, kp_0, (4, 2, 600000, 7302250, 999), yL_law, cL_law, (some .boolean))
abbrev cX0_init : ByteArray := prog_2_method_1_code
def yX0_init : MethodName := ⟨RX0, "<init>", "()V"⟩
def kc_1 : List (List (Nat × Instr × Nat)) := [[(0, .aload_n 0, 1), (1, .invokespecial 3, 3), (4, .aload_n 0, 1), (5, .bipush 104, 2), (7, .newarray .int, 2), (9, .putfield 9, 3), (12, .aload_n 0, 1), (13, .bipush 12, 2), (15, .newarray .int, 2)], [(17, .putfield 15, 3), (20, .aload_n 0, 1), (21, .iconst 0, 1), (22, .putfield 18, 3), (25, .return_, 1)]]
def kp_1 : List (Nat × Nat × Nat × Int) := [(3, 5, 0, 0), (9, 1, 0, 0), (15, 1, 0, 1), (18, 1, 0, 2)]
def kr_1 : xR := (kc_1, kp_1, (1, 0, 2, 116, 0), yX0_init, cX0_init, none)
abbrev cX0_isTold : ByteArray := prog_2_method_2_code
def yX0_isTold : MethodName := ⟨RX0, "isTold", "(LOwnChair$Scene;LOwnChair$Tape;I)Z"⟩
def kc_2 : List (List (Nat × Instr × Nat)) := [[(0, .aload_n 2, 1), (1, .getfield 22, 3), (4, .iconst 2, 1), (5, .if_icmp .lt 25, 3), (8, .aload_n 2, 1), (9, .getfield 22, 3), (12, .bipush 24, 2), (14, .if_icmp .gt 16, 3)], [(17, .aload_n 2, 1), (18, .getfield 22, 3), (21, .iconst 2, 1), (22, .irem, 1), (23, .ifCond .ne 7, 3), (26, .iconst 1, 1), (27, .goto 4, 3), (30, .iconst 0, 1), (31, .istore 4, 2)], [(33, .aload_n 1, 1), (34, .getfield 27, 3), (37, .iload_n 3, 1), (38, .invokevirtual 33, 3), (41, .ifCond .eq 8, 3), (44, .iload 4, 2), (46, .ifCond .ne 5, 3)], [(49, .iconst 0, 1), (50, .ireturn, 1), (51, .aload_n 1, 1), (52, .iload_n 3, 1), (53, .invokevirtual 39, 3), (56, .istore 5, 2), (58, .iconst 0, 1), (59, .istore 6, 2), (61, .iload 6, 2), (63, .iconst 1, 1)], [(64, .iadd, 1), (65, .aload_n 2, 1), (66, .getfield 22, 3), (69, .if_icmp .ge 52, 3), (72, .aload_n 1, 1), (73, .getfield 27, 3), (76, .iload 5, 2), (78, .aload_n 2, 1), (79, .getfield 43, 3)], [(82, .iload 6, 2), (84, .iaload, 1), (85, .invokevirtual 46, 3), (88, .ifCond .eq 16, 3), (91, .aload_n 2, 1), (92, .getfield 43, 3), (95, .iload 6, 2)], [(97, .iconst 1, 1), (98, .iadd, 1), (99, .iaload, 1), (100, .iconst 1, 1), (101, .if_icmp .le 5, 3), (104, .iconst 0, 1), (105, .ireturn, 1), (106, .aload_n 2, 1), (107, .getfield 43, 3), (110, .iload 6, 2)], [(112, .iaload, 1), (113, .istore 5, 2), (115, .iinc 6 2, 3), (118, .goto (-57), 3), (121, .iconst 1, 1), (122, .ireturn, 1)]]
def kp_2 : List (Nat × Nat × Nat × Int) := [(22, 1, 8, 1), (27, 1, 5, 0), (33, 2, 107, 1), (43, 1, 8, 0), (46, 2, 117, 2)]
def kr_2 : xR := (kc_2, kp_2, (7, 2, 0, 0, 0), yX0_isTold, cX0_isTold, (some .boolean))
abbrev cX1_init : ByteArray := prog_3_method_1_code
def yX1_init : MethodName := ⟨RX1, "<init>", "()V"⟩
def kc_9 : List (List (Nat × Instr × Nat)) := [[(0, .aload_n 0, 1), (1, .invokespecial 3, 3), (4, .aload_n 0, 1), (5, .bipush 64, 2), (7, .newarray .int, 2), (9, .putfield 9, 3), (12, .aload_n 0, 1), (13, .bipush 32, 2), (15, .newarray .int, 2)], [(17, .putfield 15, 3), (20, .aload_n 0, 1), (21, .iconst 0, 1), (22, .putfield 18, 3), (25, .return_, 1)]]
def kp_9 : List (Nat × Nat × Nat × Int) := [(3, 5, 0, 0), (9, 1, 1, 0), (15, 1, 1, 1), (18, 1, 1, 2)]
def kr_9 : xR := (kc_9, kp_9, (1, 0, 2, 96, 1), yX1_init, cX1_init, none)
abbrev cX2_init : ByteArray := prog_4_method_1_code
def yX2_init : MethodName := ⟨RX2, "<init>", "()V"⟩
def kc_15 : List (List (Nat × Instr × Nat)) := [[(0, .aload_n 0, 1), (1, .invokespecial 3, 3), (4, .aload_n 0, 1), (5, .sipush 1620, 3), (8, .newarray .int, 2), (10, .putfield 11, 3), (13, .aload_n 0, 1), (14, .iconst 0, 1), (15, .putfield 17, 3)], [(18, .aload_n 0, 1), (19, .iconst 0, 1), (20, .putfield 21, 3), (23, .return_, 1)]]
def kp_15 : List (Nat × Nat × Nat × Int) := [(3, 5, 0, 0), (11, 1, 2, 0), (17, 1, 2, 1), (21, 1, 2, 2)]
def kr_15 : xR := (kc_15, kp_15, (1, 0, 1, 1620, 2), yX2_init, cX2_init, none)
abbrev cX2_remember : ByteArray := prog_4_method_2_code
def yX2_remember : MethodName := ⟨RX2, "remember", "([I)V"⟩
def kc_16 : List (List (Nat × Instr × Nat)) := [[(0, .aload_n 0, 1), (1, .aload_n 0, 1), (2, .getfield 17, 3), (5, .iconst 1, 1), (6, .iadd, 1), (7, .bipush 20, 2), (9, .irem, 1), (10, .putfield 17, 3), (13, .aload_n 1, 1), (14, .iconst 0, 1), (15, .aload_n 0, 1)], [(16, .getfield 11, 3), (19, .aload_n 0, 1), (20, .getfield 17, 3), (23, .bipush 81, 2), (25, .imul, 1), (26, .bipush 81, 2), (28, .invokestatic 24, 3), (31, .aload_n 0, 1)], [(32, .bipush 20, 2), (34, .aload_n 0, 1), (35, .getfield 21, 3), (38, .iconst 1, 1), (39, .iadd, 1), (40, .invokestatic 30, 3), (43, .putfield 21, 3), (46, .return_, 1)]]
def kp_16 : List (Nat × Nat × Nat × Int) := [(11, 1, 2, 0), (17, 1, 2, 1), (21, 1, 2, 2), (24, 10, 0, 0), (30, 13, 0, 0)]
def kr_16 : xR := (kc_16, kp_16, (2, 0, 0, 0, 2), yX2_remember, cX2_remember, none)
abbrev cX3_init : ByteArray := prog_5_method_1_code
def yX3_init : MethodName := ⟨RX3, "<init>", "()V"⟩
def kc_18 : List (List (Nat × Instr × Nat)) := [[(0, .aload_n 0, 1), (1, .invokespecial 1, 3), (4, .aload_n 0, 1), (5, .iconst 0, 1), (6, .newarray .int, 2), (8, .putfield 7, 3), (11, .aload_n 0, 1), (12, .iconst 0, 1), (13, .putfield 13, 3)], [(16, .aload_n 0, 1), (17, .iconst 0, 1), (18, .putfield 17, 3), (21, .aload_n 0, 1), (22, .iconst 0, 1), (23, .putfield 20, 3), (26, .aload_n 0, 1), (27, .iconst 0, 1), (28, .putfield 23, 3), (31, .aload_n 0, 1)], [(32, .iconst 0, 1), (33, .putfield 26, 3), (36, .aload_n 0, 1), (37, .iconst 0, 1), (38, .putfield 29, 3), (41, .aload_n 0, 1), (42, .iconst 0, 1), (43, .putfield 32, 3), (46, .return_, 1)]]
def kp_18 : List (Nat × Nat × Nat × Int) := [(1, 5, 0, 0), (7, 1, 3, 0), (13, 1, 3, 1), (17, 1, 3, 2), (20, 1, 3, 3), (23, 1, 3, 4), (26, 1, 3, 5), (29, 1, 3, 6), (32, 1, 3, 7)]
def kr_18 : xR := (kc_18, kp_18, (1, 0, 1, 0, 3), yX3_init, cX3_init, none)
abbrev cX3_begin : ByteArray := prog_5_method_2_code
def yX3_begin : MethodName := ⟨RX3, "begin", "(LOwnChair$Tape;)V"⟩
def kc_19 : List (List (Nat × Instr × Nat)) := [[(0, .aload_n 0, 1), (1, .aload_n 1, 1), (2, .getfield 35, 3), (5, .putfield 7, 3), (8, .aload_n 0, 1), (9, .aload_n 1, 1), (10, .getfield 40, 3), (13, .aload_n 1, 1), (14, .getfield 35, 3)], [(17, .arraylength, 1), (18, .invokestatic 41, 3), (21, .putfield 13, 3), (24, .aload_n 0, 1), (25, .iconst 0, 1), (26, .putfield 17, 3), (29, .aload_n 0, 1), (30, .iconst 0, 1), (31, .putfield 20, 3)], [(34, .aload_n 0, 1), (35, .iconst 0, 1), (36, .putfield 29, 3), (39, .return_, 1)]]
def kp_19 : List (Nat × Nat × Nat × Int) := [(7, 1, 3, 0), (13, 1, 3, 1), (17, 1, 3, 2), (20, 1, 3, 3), (29, 1, 3, 6), (35, 1, 8, 0), (40, 1, 8, 1), (41, 13, 0, 0)]
def kr_19 : xR := (kc_19, kp_19, (2, 0, 0, 0, 3), yX3_begin, cX3_begin, none)
abbrev cX3_atEnd : ByteArray := prog_5_method_8_code
def yX3_atEnd : MethodName := ⟨RX3, "atEnd", "()Z"⟩
def kc_25 : List (List (Nat × Instr × Nat)) := [[(0, .aload_n 0, 1), (1, .getfield 17, 3), (4, .aload_n 0, 1), (5, .getfield 13, 3), (8, .if_icmp .ge 44, 3), (11, .aload_n 0, 1), (12, .getfield 7, 3), (15, .aload_n 0, 1)], [(16, .getfield 17, 3), (19, .iaload, 1), (20, .bipush 10, 2), (22, .if_icmp .eq 17, 3), (25, .aload_n 0, 1), (26, .getfield 7, 3), (29, .aload_n 0, 1), (30, .getfield 17, 3)], [(33, .iaload, 1), (34, .bipush 32, 2), (36, .if_icmp .ne 16, 3), (39, .aload_n 0, 1), (40, .dup, 1), (41, .getfield 17, 3), (44, .iconst 1, 1), (45, .iadd, 1), (46, .putfield 17, 3)], [(49, .goto (-49), 3), (52, .aload_n 0, 1), (53, .getfield 17, 3), (56, .aload_n 0, 1), (57, .getfield 13, 3), (60, .if_icmp .lt 7, 3), (63, .iconst 1, 1)], [(64, .goto 4, 3), (67, .iconst 0, 1), (68, .ireturn, 1)]]
def kp_25 : List (Nat × Nat × Nat × Int) := [(7, 1, 3, 0), (13, 1, 3, 1), (17, 1, 3, 2)]
def kr_25 : xR := (kc_25, kp_25, (1, 2, 0, 0, 3), yX3_atEnd, cX3_atEnd, (some .boolean))
abbrev cX4_init : ByteArray := prog_6_method_1_code
def yX4_init : MethodName := ⟨RX4, "<init>", "()V"⟩
def kc_32 : List (List (Nat × Instr × Nat)) := [[(0, .aload_n 0, 1), (1, .invokespecial 3, 3), (4, .aload_n 0, 1), (5, .bipush 64, 2), (7, .newarray .int, 2), (9, .putfield 9, 3), (12, .aload_n 0, 1), (13, .bipush 64, 2), (15, .newarray .int, 2)], [(17, .putfield 15, 3), (20, .aload_n 0, 1), (21, .bipush 8, 2), (23, .newarray .int, 2), (25, .putfield 18, 3), (28, .aload_n 0, 1), (29, .bipush 8, 2), (31, .newarray .int, 2)], [(33, .putfield 21, 3), (36, .aload_n 0, 1), (37, .iconst 0, 1), (38, .putfield 24, 3), (41, .aload_n 0, 1), (42, .iconst 0, 1), (43, .putfield 28, 3), (46, .aload_n 0, 1), (47, .iconst (-1), 1)], [(48, .putfield 31, 3), (51, .return_, 1)]]
def kp_32 : List (Nat × Nat × Nat × Int) := [(3, 5, 0, 0), (9, 1, 4, 0), (15, 1, 4, 1), (18, 1, 4, 2), (21, 1, 4, 3), (24, 1, 4, 4), (28, 1, 4, 5), (31, 1, 4, 6)]
def kr_32 : xR := (kc_32, kp_32, (1, 0, 4, 144, 4), yX4_init, cX4_init, none)
abbrev cX5_init : ByteArray := prog_7_method_1_code
def yX5_init : MethodName := ⟨RX5, "<init>", "()V"⟩
def kc_41 : List (List (Nat × Instr × Nat)) := [[(0, .aload_n 0, 1), (1, .invokespecial 5, 3), (4, .aload_n 0, 1), (5, .new 11, 3), (8, .dup, 1), (9, .invokespecial 13, 3), (12, .putfield 14, 3), (15, .aload_n 0, 1)], [(16, .new 11, 3), (19, .dup, 1), (20, .invokespecial 13, 3), (23, .putfield 18, 3), (26, .aload_n 0, 1), (27, .bipush 81, 2), (29, .newarray .int, 2), (31, .putfield 21, 3)], [(34, .aload_n 0, 1), (35, .bipush 6, 2), (37, .newarray .int, 2), (39, .putfield 27, 3), (42, .return_, 1)]]
def kp_41 : List (Nat × Nat × Nat × Int) := [(5, 5, 0, 0), (11, 9, 9, 0), (13, 4, 104, 0), (14, 1, 5, 0), (18, 1, 5, 1), (21, 1, 5, 2), (27, 1, 5, 3)]
def kr_41 : xR := (kc_41, kp_41, (1, 0, 36, 787, 5), yX5_init, cX5_init, none)
abbrev cX5_takeDraft : ByteArray := prog_7_method_2_code
def yX5_takeDraft : MethodName := ⟨RX5, "takeDraft", "()V"⟩
def kc_42 : List (List (Nat × Instr × Nat)) := [[(0, .aload_n 0, 1), (1, .getfield 14, 3), (4, .astore_n 1, 1), (5, .aload_n 0, 1), (6, .aload_n 0, 1), (7, .getfield 18, 3), (10, .putfield 14, 3), (13, .aload_n 0, 1), (14, .aload_n 1, 1), (15, .putfield 18, 3)], [(18, .aload_n 0, 1), (19, .getfield 21, 3), (22, .iconst 0, 1), (23, .invokestatic 30, 3), (26, .iconst 0, 1), (27, .istore_n 2, 1), (28, .iload_n 2, 1), (29, .aload_n 0, 1), (30, .getfield 14, 3)], [(33, .getfield 36, 3), (36, .if_icmp .ge 44, 3), (39, .aload_n 0, 1), (40, .getfield 21, 3), (43, .iconst 0, 1), (44, .iload_n 2, 1), (45, .iadd, 1), (46, .aload_n 0, 1), (47, .getfield 14, 3)], [(50, .getfield 40, 3), (53, .iload_n 2, 1), (54, .iaload, 1), (55, .iastore, 1), (56, .aload_n 0, 1), (57, .getfield 21, 3), (60, .bipush 8, 2), (62, .iload_n 2, 1), (63, .iadd, 1)], [(64, .aload_n 0, 1), (65, .getfield 14, 3), (68, .getfield 40, 3), (71, .iload_n 2, 1), (72, .iaload, 1), (73, .iastore, 1), (74, .iinc 2 1, 3), (77, .goto (-49), 3)], [(80, .return_, 1)]]
def kp_42 : List (Nat × Nat × Nat × Int) := [(14, 1, 5, 0), (18, 1, 5, 1), (21, 1, 5, 2), (30, 6, 301, 2), (36, 1, 9, 1), (40, 1, 9, 13)]
def kr_42 : xR := (kc_42, kp_42, (3, 0, 0, 0, 5), yX5_takeDraft, cX5_takeDraft, none)
abbrev cX5_keptCount : ByteArray := prog_7_method_8_code
def yX5_keptCount : MethodName := ⟨RX5, "keptCount", "()I"⟩
def kc_48 : List (List (Nat × Instr × Nat)) := [[(0, .aload_n 0, 1), (1, .getfield 21, 3), (4, .bipush 40, 2), (6, .iaload, 1), (7, .ireturn, 1)]]
def kp_48 : List (Nat × Nat × Nat × Int) := [(21, 1, 5, 2)]
def kr_48 : xR := (kc_48, kp_48, (1, 1, 0, 0, 5), yX5_keptCount, cX5_keptCount, (some .int))
abbrev cX5_sitting : ByteArray := prog_7_method_9_code
def yX5_sitting : MethodName := ⟨RX5, "sitting", "()I"⟩
def kc_49 : List (List (Nat × Instr × Nat)) := [[(0, .iconst 0, 1), (1, .istore_n 1, 1), (2, .iconst 0, 1), (3, .istore_n 2, 1), (4, .iload_n 2, 1), (5, .aload_n 0, 1), (6, .getfield 14, 3), (9, .getfield 36, 3), (12, .if_icmp .ge 25, 3), (15, .iload_n 1, 1)], [(16, .aload_n 0, 1), (17, .iload_n 2, 1), (18, .invokevirtual 43, 3), (21, .ifCond .eq 7, 3), (24, .iconst 1, 1), (25, .goto 4, 3), (28, .iconst 0, 1), (29, .iadd, 1), (30, .istore_n 1, 1), (31, .iinc 2 1, 3)], [(34, .goto (-30), 3), (37, .iload_n 1, 1), (38, .ireturn, 1)]]
def kp_49 : List (Nat × Nat × Nat × Int) := [(14, 1, 5, 0), (36, 1, 9, 1)]
def kr_49 : xR := (kc_49, kp_49, (3, 1, 0, 0, 5), yX5_sitting, cX5_sitting, (some .int))
abbrev cX5_brokenChairs : ByteArray := prog_7_method_10_code
def yX5_brokenChairs : MethodName := ⟨RX5, "brokenChairs", "()I"⟩
def kc_50 : List (List (Nat × Instr × Nat)) := [[(0, .iconst 0, 1), (1, .istore_n 1, 1), (2, .iconst 0, 1), (3, .istore_n 2, 1), (4, .iload_n 2, 1), (5, .aload_n 0, 1), (6, .getfield 14, 3), (9, .getfield 36, 3), (12, .if_icmp .ge 25, 3), (15, .iload_n 1, 1)], [(16, .aload_n 0, 1), (17, .iload_n 2, 1), (18, .invokevirtual 47, 3), (21, .ifCond .eq 7, 3), (24, .iconst 1, 1), (25, .goto 4, 3), (28, .iconst 0, 1), (29, .iadd, 1), (30, .istore_n 1, 1), (31, .iinc 2 1, 3)], [(34, .goto (-30), 3), (37, .iload_n 1, 1), (38, .ireturn, 1)]]
def kp_50 : List (Nat × Nat × Nat × Int) := [(14, 1, 5, 0), (36, 1, 9, 1)]
def kr_50 : xR := (kc_50, kp_50, (3, 1, 0, 0, 5), yX5_brokenChairs, cX5_brokenChairs, (some .int))
abbrev cX5_latestClock : ByteArray := prog_7_method_11_code
def yX5_latestClock : MethodName := ⟨RX5, "latestClock", "()I"⟩
def kc_51 : List (List (Nat × Instr × Nat)) := [[(0, .iconst 0, 1), (1, .istore_n 1, 1), (2, .iconst 0, 1), (3, .istore_n 2, 1), (4, .iload_n 2, 1), (5, .aload_n 0, 1), (6, .getfield 14, 3), (9, .getfield 36, 3), (12, .if_icmp .ge 19, 3), (15, .iload_n 1, 1)], [(16, .aload_n 0, 1), (17, .iload_n 2, 1), (18, .invokevirtual 50, 3), (21, .invokestatic 54, 3), (24, .istore_n 1, 1), (25, .iinc 2 1, 3), (28, .goto (-24), 3), (31, .iload_n 1, 1)], [(32, .ireturn, 1)]]
def kp_51 : List (Nat × Nat × Nat × Int) := [(14, 1, 5, 0), (36, 1, 9, 1), (54, 14, 0, 0)]
def kr_51 : xR := (kc_51, kp_51, (3, 1, 0, 0, 5), yX5_latestClock, cX5_latestClock, (some .int))
abbrev cX5_allAches : ByteArray := prog_7_method_12_code
def yX5_allAches : MethodName := ⟨RX5, "allAches", "()I"⟩
def kc_52 : List (List (Nat × Instr × Nat)) := [[(0, .iconst 0, 1), (1, .istore_n 1, 1), (2, .iconst 0, 1), (3, .istore_n 2, 1), (4, .iload_n 2, 1), (5, .aload_n 0, 1), (6, .getfield 14, 3), (9, .getfield 36, 3), (12, .if_icmp .ge 17, 3), (15, .iload_n 1, 1)], [(16, .aload_n 0, 1), (17, .iload_n 2, 1), (18, .invokevirtual 60, 3), (21, .iadd, 1), (22, .istore_n 1, 1), (23, .iinc 2 1, 3), (26, .goto (-22), 3), (29, .iload_n 1, 1), (30, .ireturn, 1)]]
def kp_52 : List (Nat × Nat × Nat × Int) := [(14, 1, 5, 0), (36, 1, 9, 1)]
def kr_52 : xR := (kc_52, kp_52, (3, 1, 0, 0, 5), yX5_allAches, cX5_allAches, (some .int))
abbrev cX5_goingMinutes : ByteArray := prog_7_method_21_code
def yX5_goingMinutes : MethodName := ⟨RX5, "goingMinutes", "(III)I"⟩
def kc_61 : List (List (Nat × Instr × Nat)) := [[(0, .aload_n 0, 1), (1, .getfield 14, 3), (4, .iload_n 1, 1), (5, .invokevirtual 75, 3), (8, .ifCond .eq 19, 3), (11, .aload_n 0, 1), (12, .getfield 14, 3), (15, .aload_n 0, 1)], [(16, .iload_n 1, 1), (17, .invokevirtual 63, 3), (20, .iload_n 2, 1), (21, .invokevirtual 101, 3), (24, .ifCond .ne 5, 3), (27, .iconst (-1), 1), (28, .ireturn, 1), (29, .iload_n 3, 1), (30, .iconst (-1), 1), (31, .if_icmp .eq 15, 3)], [(34, .aload_n 0, 1), (35, .iload_n 1, 1), (36, .iload_n 2, 1), (37, .iload_n 3, 1), (38, .invokevirtual 104, 3), (41, .ifCond .ne 5, 3), (44, .iconst (-1), 1), (45, .ireturn, 1), (46, .aload_n 0, 1), (47, .iload_n 1, 1)], [(48, .iload_n 3, 1), (49, .aload_n 0, 1), (50, .getfield 14, 3), (53, .aload_n 0, 1), (54, .iload_n 1, 1), (55, .invokevirtual 63, 3), (58, .iload_n 2, 1), (59, .invokevirtual 101, 3), (62, .invokevirtual 107, 3)], [(65, .ireturn, 1)]]
def kp_61 : List (Nat × Nat × Nat × Int) := [(14, 1, 5, 0), (75, 2, 107, 1), (101, 2, 117, 2)]
def kr_61 : xR := (kc_61, kp_61, (4, 1, 0, 0, 5), yX5_goingMinutes, cX5_goingMinutes, (some .int))
abbrev cX5_keptPart : ByteArray := prog_7_method_27_code
def yX5_keptPart : MethodName := ⟨RX5, "keptPart", "(II)I"⟩
def kc_67 : List (List (Nat × Instr × Nat)) := [[(0, .iload_n 1, 1), (1, .ifCond .lt 11, 3), (4, .iload_n 1, 1), (5, .aload_n 0, 1), (6, .invokevirtual 140, 3), (9, .if_icmp .lt 5, 3), (12, .iconst (-1), 1), (13, .ireturn, 1), (14, .aload_n 0, 1), (15, .getfield 21, 3)], [(18, .bipush 41, 2), (20, .iload_n 1, 1), (21, .iadd, 1), (22, .iaload, 1), (23, .istore_n 3, 1), (24, .iload_n 2, 1), (25, .tableswitch 56 0 3 #[31, 36, 43, 51], 31)], [], [(56, .iload_n 3, 1), (57, .bipush 7, 2), (59, .iand, 1), (60, .ireturn, 1), (61, .iload_n 3, 1), (62, .iconst 3, 1), (63, .ishr, 1)], [(64, .bipush 7, 2), (66, .iand, 1), (67, .ireturn, 1), (68, .iload_n 3, 1), (69, .bipush 6, 2), (71, .ishr, 1), (72, .bipush 7, 2), (74, .iand, 1), (75, .ireturn, 1), (76, .iload_n 3, 1), (77, .bipush 9, 2), (79, .ishr, 1)], [(80, .ireturn, 1), (81, .iconst (-1), 1), (82, .ireturn, 1)]]
def kp_67 : List (Nat × Nat × Nat × Int) := [(21, 1, 5, 2), (140, 2, 48, 0)]
def kr_67 : xR := (kc_67, kp_67, (4, 1, 0, 0, 5), yX5_keptPart, cX5_keptPart, (some .int))
abbrev cX5_canMend : ByteArray := prog_7_method_30_code
def yX5_canMend : MethodName := ⟨RX5, "canMend", "(II)Z"⟩
def kc_70 : List (List (Nat × Instr × Nat)) := [[(0, .aload_n 0, 1), (1, .getfield 14, 3), (4, .iload_n 1, 1), (5, .invokevirtual 75, 3), (8, .ifCond .eq 73, 3), (11, .aload_n 0, 1), (12, .getfield 14, 3), (15, .iload_n 2, 1)], [(16, .invokevirtual 75, 3), (19, .ifCond .eq 62, 3), (22, .aload_n 0, 1), (23, .getfield 14, 3), (26, .aload_n 0, 1), (27, .getfield 14, 3), (30, .getfield 153, 3)], [(33, .invokevirtual 72, 3), (36, .ifCond .eq 45, 3), (39, .aload_n 0, 1), (40, .iload_n 1, 1), (41, .invokevirtual 63, 3), (44, .aload_n 0, 1), (45, .getfield 14, 3)], [(48, .getfield 153, 3), (51, .if_icmp .ne 30, 3), (54, .aload_n 0, 1), (55, .iload_n 2, 1), (56, .invokevirtual 66, 3), (59, .aload_n 0, 1), (60, .getfield 14, 3), (63, .getfield 153, 3)], [(66, .if_icmp .ne 15, 3), (69, .aload_n 0, 1), (70, .iload_n 2, 1), (71, .invokevirtual 47, 3), (74, .ifCond .eq 7, 3), (77, .iconst 1, 1), (78, .goto 4, 3)], [(81, .iconst 0, 1), (82, .ireturn, 1)]]
def kp_70 : List (Nat × Nat × Nat × Int) := [(14, 1, 5, 0), (72, 2, 106, 1), (75, 2, 107, 1), (153, 1, 9, 3)]
def kr_70 : xR := (kc_70, kp_70, (3, 2, 0, 0, 5), yX5_canMend, cX5_canMend, (some .boolean))
abbrev cX5_draw : ByteArray := prog_7_method_32_code
def yX5_draw : MethodName := ⟨RX5, "draw", "([I)I"⟩
def kc_72 : List (List (Nat × Instr × Nat)) := [[(0, .iconst 0, 1), (1, .istore_n 2, 1), (2, .bipush 113, 2), (4, .istore_n 3, 1), (5, .iconst 0, 1), (6, .istore 4, 2), (8, .iload 4, 2), (10, .aload_n 0, 1), (11, .getfield 14, 3), (14, .getfield 36, 3)], [(17, .if_icmp .ge 51, 3), (20, .iconst 0, 1), (21, .istore 5, 2), (23, .iload 5, 2), (25, .bipush 9, 2), (27, .if_icmp .ge 35, 3), (30, .aload_n 1, 1), (31, .iload_n 2, 1)], [(32, .aload_n 0, 1), (33, .iload 4, 2), (35, .iload 5, 2), (37, .invokevirtual 156, 3), (40, .iastore, 1), (41, .iconst 5, 1), (42, .iload_n 3, 1), (43, .imul, 1), (44, .aload_n 1, 1), (45, .iload_n 2, 1), (46, .iaload, 1), (47, .iadd, 1)], [(48, .sipush 251, 3), (51, .irem, 1), (52, .istore_n 3, 1), (53, .iinc 2 1, 3), (56, .iinc 5 1, 3), (59, .goto (-36), 3), (62, .iinc 4 1, 3)], [(65, .goto (-57), 3), (68, .aload_n 1, 1), (69, .iload_n 2, 1), (70, .iload_n 3, 1), (71, .iastore, 1), (72, .iload_n 2, 1), (73, .iconst 1, 1), (74, .iadd, 1), (75, .ireturn, 1)]]
def kp_72 : List (Nat × Nat × Nat × Int) := [(14, 1, 5, 0), (36, 1, 9, 1)]
def kr_72 : xR := (kc_72, kp_72, (6, 1, 0, 0, 5), yX5_draw, cX5_draw, (some .int))
abbrev cX5_isImage : ByteArray := prog_7_method_34_code
def yX5_isImage : MethodName := ⟨RX5, "isImage", "(LOwnChair$Tape;)Z"⟩
def kc_74 : List (List (Nat × Instr × Nat)) := [[(0, .aload_n 0, 1), (1, .getfield 14, 3), (4, .getfield 36, 3), (7, .bipush 9, 2), (9, .imul, 1), (10, .istore_n 2, 1), (11, .aload_n 1, 1), (12, .getfield 159, 3), (15, .iload_n 2, 1)], [(16, .iconst 1, 1), (17, .iadd, 1), (18, .if_icmp .eq 5, 3), (21, .iconst 0, 1), (22, .ireturn, 1), (23, .bipush 113, 2), (25, .istore_n 3, 1), (26, .iconst 0, 1), (27, .istore 4, 2), (29, .iload 4, 2), (31, .iload_n 2, 1)], [(32, .if_icmp .ge 25, 3), (35, .iconst 5, 1), (36, .iload_n 3, 1), (37, .imul, 1), (38, .aload_n 1, 1), (39, .getfield 164, 3), (42, .iload 4, 2), (44, .iaload, 1), (45, .iadd, 1), (46, .sipush 251, 3)], [(49, .irem, 1), (50, .istore_n 3, 1), (51, .iinc 4 1, 3), (54, .goto (-25), 3), (57, .iload_n 3, 1), (58, .aload_n 1, 1), (59, .getfield 164, 3), (62, .iload_n 2, 1), (63, .iaload, 1)], [(64, .if_icmp .eq 5, 3), (67, .iconst 0, 1), (68, .ireturn, 1), (69, .iconst 0, 1), (70, .istore 4, 2), (72, .iload 4, 2), (74, .aload_n 0, 1), (75, .getfield 14, 3), (78, .getfield 36, 3)], [(81, .if_icmp .ge 94, 3), (84, .iload 4, 2), (86, .bipush 9, 2), (88, .imul, 1), (89, .istore 5, 2), (91, .aload_n 0, 1), (92, .getfield 14, 3), (95, .aload_n 1, 1)], [(96, .getfield 164, 3), (99, .iload 5, 2), (101, .iaload, 1), (102, .invokevirtual 72, 3), (105, .ifCond .eq 62, 3), (108, .aload_n 0, 1), (109, .getfield 14, 3)], [(112, .aload_n 1, 1), (113, .getfield 164, 3), (116, .iload 5, 2), (118, .iconst 1, 1), (119, .iadd, 1), (120, .iaload, 1), (121, .invokevirtual 72, 3), (124, .ifCond .eq 43, 3), (127, .aload_n 1, 1)], [(128, .getfield 164, 3), (131, .iload 5, 2), (133, .iconst 2, 1), (134, .iadd, 1), (135, .iaload, 1), (136, .iconst 1, 1), (137, .if_icmp .gt 30, 3), (140, .aload_n 1, 1), (141, .iload 5, 2), (143, .iconst 3, 1)], [(144, .iadd, 1), (145, .invokestatic 167, 3), (148, .ldc 132, 2), (150, .if_icmp .gt 17, 3), (153, .aload_n 1, 1), (154, .iload 5, 2), (156, .bipush 6, 2), (158, .iadd, 1), (159, .invokestatic 167, 3)], [(162, .ldc 132, 2), (164, .if_icmp .le 5, 3), (167, .iconst 0, 1), (168, .ireturn, 1), (169, .iinc 4 1, 3), (172, .goto (-100), 3), (175, .aload_n 0, 1)], [(176, .aload_n 1, 1), (177, .invokevirtual 171, 3), (180, .ireturn, 1)]]
def kp_74 : List (Nat × Nat × Nat × Int) := [(14, 1, 5, 0), (36, 1, 9, 1), (72, 2, 106, 1), (132, 7, 0, 99999), (159, 1, 8, 1), (164, 1, 8, 0)]
def kr_74 : xR := (kc_74, kp_74, (6, 2, 0, 0, 5), yX5_isImage, cX5_isImage, (some .boolean))
abbrev cX6_init : ByteArray := prog_8_method_1_code
def yX6_init : MethodName := ⟨RX6, "<init>", "()V"⟩
def kc_78 : List (List (Nat × Instr × Nat)) := [[(0, .aload_n 0, 1), (1, .invokespecial 3, 3), (4, .aload_n 0, 1), (5, .bipush 8, 2), (7, .newarray .int, 2), (9, .putfield 9, 3), (12, .aload_n 0, 1), (13, .bipush 8, 2), (15, .newarray .int, 2)], [(17, .putfield 15, 3), (20, .aload_n 0, 1), (21, .sipush 2048, 3), (24, .newarray .int, 2), (26, .putfield 18, 3), (29, .aload_n 0, 1), (30, .sipush 256, 3)], [(33, .newarray .int, 2), (35, .putfield 21, 3), (38, .aload_n 0, 1), (39, .sipush 256, 3), (42, .newarray .int, 2), (44, .putfield 24, 3), (47, .aload_n 0, 1)], [(48, .bipush 64, 2), (50, .newarray .int, 2), (52, .putfield 27, 3), (55, .aload_n 0, 1), (56, .iconst 0, 1), (57, .putfield 30, 3), (60, .aload_n 0, 1), (61, .iconst 1, 1), (62, .putfield 34, 3)], [(65, .return_, 1)]]
def kp_78 : List (Nat × Nat × Nat × Int) := [(3, 5, 0, 0), (9, 1, 6, 0), (15, 1, 6, 1), (18, 1, 6, 2), (21, 1, 6, 3), (24, 1, 6, 4), (27, 1, 6, 5), (30, 1, 6, 6), (34, 1, 6, 7)]
def kr_78 : xR := (kc_78, kp_78, (1, 0, 6, 2640, 6), yX6_init, cX6_init, none)
abbrev cX6_isTold : ByteArray := prog_8_method_4_code
def yX6_isTold : MethodName := ⟨RX6, "isTold", "(LOwnChair$Town;LOwnChair$Tape;)Z"⟩
def kc_81 : List (List (Nat × Instr × Nat)) := [[(0, .aload_n 2, 1), (1, .getfield 85, 3), (4, .iconst 2, 1), (5, .if_icmp .lt 21, 3), (8, .aload_n 2, 1), (9, .getfield 85, 3), (12, .bipush 16, 2), (14, .if_icmp .gt 12, 3)], [(17, .aload_n 2, 1), (18, .getfield 85, 3), (21, .iconst 2, 1), (22, .irem, 1), (23, .ifCond .eq 5, 3), (26, .iconst 0, 1), (27, .ireturn, 1), (28, .iconst 0, 1), (29, .istore_n 3, 1), (30, .iconst 0, 1), (31, .istore 4, 2)], [(33, .iload 4, 2), (35, .iconst 1, 1), (36, .iadd, 1), (37, .aload_n 2, 1), (38, .getfield 85, 3), (41, .if_icmp .ge 46, 3), (44, .aload_n 2, 1), (45, .getfield 90, 3)], [(48, .iload 4, 2), (50, .iaload, 1), (51, .istore 5, 2), (53, .aload_n 1, 1), (54, .iload 5, 2), (56, .invokevirtual 93, 3), (59, .ifCond .eq 13, 3), (62, .iload_n 3, 1), (63, .iload 5, 2)], [(65, .ishr, 1), (66, .iconst 1, 1), (67, .iand, 1), (68, .iconst 1, 1), (69, .if_icmp .ne 5, 3), (72, .iconst 0, 1), (73, .ireturn, 1), (74, .iload_n 3, 1), (75, .iconst 1, 1), (76, .iload 5, 2), (78, .ishl, 1), (79, .ior, 1)], [(80, .istore_n 3, 1), (81, .iinc 4 2, 3), (84, .goto (-51), 3), (87, .aload_n 0, 1), (88, .aload_n 2, 1), (89, .invokevirtual 96, 3), (92, .iconst 1, 1), (93, .ireturn, 1)]]
def kp_81 : List (Nat × Nat × Nat × Int) := [(85, 1, 8, 1), (90, 1, 8, 0), (93, 2, 106, 1)]
def kr_81 : xR := (kc_81, kp_81, (6, 2, 0, 0, 6), yX6_isTold, cX6_isTold, (some .boolean))
abbrev cX7_init : ByteArray := prog_9_method_1_code
def yX7_init : MethodName := ⟨RX7, "<init>", "()V"⟩
def kc_88 : List (List (Nat × Instr × Nat)) := [[(0, .aload_n 0, 1), (1, .invokespecial 3, 3), (4, .aload_n 0, 1), (5, .new 9, 3), (8, .dup, 1), (9, .invokespecial 11, 3), (12, .putfield 12, 3), (15, .return_, 1)]]
def kp_88 : List (Nat × Nat × Nat × Int) := [(3, 5, 0, 0), (9, 9, 3, 0), (11, 4, 18, 0), (12, 1, 7, 0)]
def kr_88 : xR := (kc_88, kp_88, (1, 0, 2, 8, 7), yX7_init, cX7_init, none)
abbrev cX8_init : ByteArray := prog_10_method_1_code
def yX8_init : MethodName := ⟨RX8, "<init>", "()V"⟩
def kc_102 : List (List (Nat × Instr × Nat)) := [[(0, .aload_n 0, 1), (1, .invokespecial 3, 3), (4, .aload_n 0, 1), (5, .sipush 1600, 3), (8, .newarray .int, 2), (10, .putfield 9, 3), (13, .aload_n 0, 1), (14, .iconst 0, 1), (15, .putfield 15, 3)], [(18, .return_, 1)]]
def kp_102 : List (Nat × Nat × Nat × Int) := [(3, 5, 0, 0), (9, 1, 8, 0), (15, 1, 8, 1)]
def kr_102 : xR := (kc_102, kp_102, (1, 0, 1, 1600, 8), yX8_init, cX8_init, none)
abbrev cX8_append : ByteArray := prog_10_method_2_code
def yX8_append : MethodName := ⟨RX8, "append", "(I)V"⟩
def kc_103 : List (List (Nat × Instr × Nat)) := [[(0, .bipush 24, 2), (2, .istore_n 2, 1), (3, .iload_n 2, 1), (4, .ifCond .lt 47, 3), (7, .aload_n 0, 1), (8, .getfield 15, 3), (11, .aload_n 0, 1), (12, .getfield 9, 3), (15, .arraylength, 1)], [(16, .if_icmp .ge 35, 3), (19, .aload_n 0, 1), (20, .getfield 9, 3), (23, .aload_n 0, 1), (24, .getfield 15, 3), (27, .iload_n 1, 1), (28, .iload_n 2, 1), (29, .iushr, 1), (30, .sipush 255, 3)], [(33, .iand, 1), (34, .iastore, 1), (35, .aload_n 0, 1), (36, .dup, 1), (37, .getfield 15, 3), (40, .iconst 1, 1), (41, .iadd, 1), (42, .putfield 15, 3), (45, .iinc 2 (-8), 3)], [(48, .goto (-45), 3), (51, .return_, 1)]]
def kp_103 : List (Nat × Nat × Nat × Int) := [(9, 1, 8, 0), (15, 1, 8, 1)]
def kr_103 : xR := (kc_103, kp_103, (3, 0, 0, 0, 8), yX8_append, cX8_append, none)
abbrev cX9_init : ByteArray := prog_11_method_1_code
def yX9_init : MethodName := ⟨RX9, "<init>", "()V"⟩
def kc_104 : List (List (Nat × Instr × Nat)) := [[(0, .aload_n 0, 1), (1, .invokespecial 3, 3), (4, .aload_n 0, 1), (5, .iconst 0, 1), (6, .putfield 9, 3), (9, .aload_n 0, 1), (10, .iconst 0, 1), (11, .putfield 15, 3), (14, .aload_n 0, 1), (15, .iconst 0, 1)], [(16, .putfield 18, 3), (19, .aload_n 0, 1), (20, .iconst (-1), 1), (21, .putfield 21, 3), (24, .aload_n 0, 1), (25, .bipush 8, 2), (27, .newarray .int, 2), (29, .putfield 24, 3)], [(32, .aload_n 0, 1), (33, .bipush 8, 2), (35, .newarray .int, 2), (37, .putfield 28, 3), (40, .aload_n 0, 1), (41, .bipush 8, 2), (43, .newarray .int, 2), (45, .putfield 31, 3)], [(48, .aload_n 0, 1), (49, .bipush 64, 2), (51, .newarray .int, 2), (53, .putfield 34, 3), (56, .aload_n 0, 1), (57, .bipush 8, 2), (59, .newarray .int, 2), (61, .putfield 37, 3)], [(64, .aload_n 0, 1), (65, .bipush 8, 2), (67, .newarray .int, 2), (69, .putfield 40, 3), (72, .aload_n 0, 1), (73, .bipush 8, 2), (75, .newarray .int, 2), (77, .putfield 43, 3)], [(80, .aload_n 0, 1), (81, .bipush 8, 2), (83, .newarray .int, 2), (85, .putfield 46, 3), (88, .aload_n 0, 1), (89, .bipush 8, 2), (91, .newarray .int, 2), (93, .putfield 49, 3)], [(96, .aload_n 0, 1), (97, .bipush 8, 2), (99, .newarray .int, 2), (101, .putfield 52, 3), (104, .aload_n 0, 1), (105, .new 55, 3), (108, .dup, 1), (109, .invokespecial 57, 3)], [(112, .putfield 58, 3), (115, .aload_n 0, 1), (116, .new 55, 3), (119, .dup, 1), (120, .invokespecial 57, 3), (123, .putfield 62, 3), (126, .return_, 1)]]
def kp_104 : List (Nat × Nat × Nat × Int) := [(3, 5, 0, 0), (9, 1, 9, 0), (15, 1, 9, 1), (18, 1, 9, 2), (21, 1, 9, 3), (24, 1, 9, 4), (28, 1, 9, 5), (31, 1, 9, 6), (34, 1, 9, 7), (37, 1, 9, 8), (40, 1, 9, 9), (43, 1, 9, 10), (46, 1, 9, 11), (49, 1, 9, 12), (52, 1, 9, 13), (55, 9, 1, 0), (57, 4, 9, 0), (58, 1, 9, 14), (62, 1, 9, 15)]
def kr_104 : xR := (kc_104, kp_104, (1, 0, 16, 334, 9), yX9_init, cX9_init, none)
abbrev cX9_clear : ByteArray := prog_11_method_2_code
def yX9_clear : MethodName := ⟨RX9, "clear", "()V"⟩
def kc_105 : List (List (Nat × Instr × Nat)) := [[(0, .aload_n 0, 1), (1, .iconst 0, 1), (2, .putfield 9, 3), (5, .aload_n 0, 1), (6, .iconst 0, 1), (7, .putfield 15, 3), (10, .aload_n 0, 1), (11, .iconst 0, 1), (12, .putfield 18, 3), (15, .aload_n 0, 1)], [(16, .iconst (-1), 1), (17, .putfield 21, 3), (20, .aload_n 0, 1), (21, .getfield 34, 3), (24, .iconst 0, 1), (25, .invokestatic 65, 3), (28, .aload_n 0, 1), (29, .getfield 58, 3)], [(32, .iconst 0, 1), (33, .putfield 71, 3), (36, .aload_n 0, 1), (37, .getfield 62, 3), (40, .iconst 0, 1), (41, .putfield 71, 3), (44, .return_, 1)]]
def kp_105 : List (Nat × Nat × Nat × Int) := [(9, 1, 9, 0), (15, 1, 9, 1), (18, 1, 9, 2), (21, 1, 9, 3), (34, 1, 9, 7), (58, 1, 9, 14), (62, 1, 9, 15), (65, 6, 301, 2), (71, 1, 1, 2)]
def kr_105 : xR := (kc_105, kp_105, (1, 0, 0, 0, 9), yX9_clear, cX9_clear, none)
abbrev cX9_isRoom : ByteArray := prog_11_method_3_code
def yX9_isRoom : MethodName := ⟨RX9, "isRoom", "(I)Z"⟩
def kc_106 : List (List (Nat × Instr × Nat)) := [[(0, .iload_n 1, 1), (1, .ifCond .lt 15, 3), (4, .iload_n 1, 1), (5, .aload_n 0, 1), (6, .getfield 9, 3), (9, .if_icmp .ge 7, 3), (12, .iconst 1, 1), (13, .goto 4, 3)], [(16, .iconst 0, 1), (17, .ireturn, 1)]]
def kp_106 : List (Nat × Nat × Nat × Int) := [(9, 1, 9, 0)]
def kr_106 : xR := (kc_106, kp_106, (2, 2, 0, 0, 9), yX9_isRoom, cX9_isRoom, (some .boolean))
abbrev cX9_isPerson : ByteArray := prog_11_method_4_code
def yX9_isPerson : MethodName := ⟨RX9, "isPerson", "(I)Z"⟩
def kc_107 : List (List (Nat × Instr × Nat)) := [[(0, .iload_n 1, 1), (1, .ifCond .lt 15, 3), (4, .iload_n 1, 1), (5, .aload_n 0, 1), (6, .getfield 15, 3), (9, .if_icmp .ge 7, 3), (12, .iconst 1, 1), (13, .goto 4, 3)], [(16, .iconst 0, 1), (17, .ireturn, 1)]]
def kp_107 : List (Nat × Nat × Nat × Int) := [(15, 1, 9, 1)]
def kr_107 : xR := (kc_107, kp_107, (2, 2, 0, 0, 9), yX9_isPerson, cX9_isPerson, (some .boolean))
abbrev cX9_wayMinutes : ByteArray := prog_11_method_14_code
def yX9_wayMinutes : MethodName := ⟨RX9, "wayMinutes", "(II)I"⟩
def kc_117 : List (List (Nat × Instr × Nat)) := [[(0, .aload_n 0, 1), (1, .iload_n 1, 1), (2, .invokevirtual 78, 3), (5, .ifCond .eq 25, 3), (8, .aload_n 0, 1), (9, .iload_n 2, 1), (10, .invokevirtual 78, 3), (13, .ifCond .eq 17, 3)], [(16, .aload_n 0, 1), (17, .getfield 34, 3), (20, .iload_n 1, 1), (21, .bipush 8, 2), (23, .imul, 1), (24, .iload_n 2, 1), (25, .iadd, 1), (26, .iaload, 1), (27, .goto 4, 3), (30, .iconst 0, 1), (31, .ireturn, 1)]]
def kp_117 : List (Nat × Nat × Nat × Int) := [(34, 1, 9, 7), (78, 2, 106, 1)]
def kr_117 : xR := (kc_117, kp_117, (3, 1, 0, 0, 9), yX9_wayMinutes, cX9_wayMinutes, (some .int))
abbrev cX10_init : ByteArray := prog_12_method_1_code
def yX10_init : MethodName := ⟨RX10, "<init>", "()V"⟩
def kc_120 : List (List (Nat × Instr × Nat)) := [[(0, .aload_n 0, 1), (1, .invokespecial 3, 3), (4, .aload_n 0, 1), (5, .new 9, 3), (8, .dup, 1), (9, .invokespecial 11, 3), (12, .putfield 12, 3), (15, .aload_n 0, 1)], [(16, .aload_n 0, 1), (17, .getfield 12, 3), (20, .getfield 18, 3), (23, .putfield 22, 3), (26, .aload_n 0, 1), (27, .iconst 0, 1), (28, .putfield 23, 3), (31, .return_, 1)]]
def kp_120 : List (Nat × Nat × Nat × Int) := [(3, 5, 0, 0), (9, 9, 7, 0), (11, 4, 88, 0), (12, 1, 10, 0), (18, 1, 7, 0), (22, 1, 10, 1), (23, 1, 10, 2)]
def kr_120 : xR := (kc_120, kp_120, (1, 0, 3, 9, 10), yX10_init, cX10_init, none)
abbrev cX10_read : ByteArray := prog_12_method_2_code
def yX10_read : MethodName := ⟨RX10, "read", "(LOwnChair$Tape;LOwnChair$Town;)I"⟩
def kc_121 : List (List (Nat × Instr × Nat)) := [[(0, .aload_n 2, 1), (1, .invokevirtual 27, 3), (4, .aload_n 0, 1), (5, .getfield 22, 3), (8, .aload_n 1, 1), (9, .invokevirtual 32, 3), (12, .iconst 0, 1), (13, .istore_n 3, 1), (14, .iload_n 3, 1), (15, .bipush 80, 2)], [(17, .if_icmp .gt 85, 3), (20, .aload_n 0, 1), (21, .getfield 22, 3), (24, .invokevirtual 38, 3), (27, .ifCond .eq 5, 3), (30, .iload_n 3, 1), (31, .ireturn, 1)], [(32, .iload_n 3, 1), (33, .bipush 80, 2), (35, .if_icmp .ne 22, 3), (38, .aload_n 0, 1), (39, .getfield 22, 3), (42, .bipush 6, 2), (44, .aload_n 0, 1), (45, .getfield 22, 3)], [(48, .getfield 42, 3), (51, .invokevirtual 45, 3), (54, .pop, 1), (55, .iconst (-1), 1), (56, .ireturn, 1), (57, .aload_n 0, 1), (58, .getfield 22, 3), (61, .invokevirtual 49, 3)], [(64, .aload_n 0, 1), (65, .aload_n 2, 1), (66, .invokevirtual 52, 3), (69, .ifCond .ne 5, 3), (72, .iconst (-1), 1), (73, .ireturn, 1), (74, .aload_n 0, 1), (75, .getfield 22, 3), (78, .bipush 59, 2)], [(80, .invokevirtual 56, 3), (83, .ifCond .ne 13, 3), (86, .aload_n 0, 1), (87, .getfield 22, 3), (90, .invokevirtual 60, 3), (93, .pop, 1), (94, .iconst (-1), 1), (95, .ireturn, 1)], [(96, .iinc 3 1, 3), (99, .goto (-85), 3), (102, .iconst (-1), 1), (103, .ireturn, 1)]]
def kp_121 : List (Nat × Nat × Nat × Int) := [(22, 1, 10, 1), (27, 2, 105, 0), (32, 2, 19, 1), (38, 2, 25, 0), (42, 1, 3, 2)]
def kr_121 : xR := (kc_121, kp_121, (4, 1, 0, 0, 10), yX10_read, cX10_read, (some .int))
abbrev cX11_init : ByteArray := prog_1_method_1_code
def yX11_init : MethodName := ⟨RX11, "<init>", "()V"⟩
def kc_135 : List (List (Nat × Instr × Nat)) := [[(0, .aload_n 0, 1), (1, .invokespecial 1, 3), (4, .aload_n 0, 1), (5, .new 7, 3), (8, .dup, 1), (9, .invokespecial 9, 3), (12, .putfield 10, 3), (15, .aload_n 0, 1)], [(16, .new 16, 3), (19, .dup, 1), (20, .invokespecial 18, 3), (23, .putfield 19, 3), (26, .aload_n 0, 1), (27, .new 23, 3), (30, .dup, 1), (31, .invokespecial 25, 3)], [(34, .putfield 26, 3), (37, .aload_n 0, 1), (38, .new 30, 3), (41, .dup, 1), (42, .invokespecial 32, 3), (45, .putfield 33, 3)], [(48, .aload_n 0, 1), (49, .new 37, 3), (52, .dup, 1), (53, .invokespecial 39, 3), (56, .putfield 40, 3), (59, .aload_n 0, 1), (60, .new 44, 3), (63, .dup, 1)], [(64, .invokespecial 46, 3), (67, .putfield 47, 3), (70, .aload_n 0, 1), (71, .new 51, 3), (74, .dup, 1), (75, .invokespecial 53, 3), (78, .putfield 54, 3)], [(81, .aload_n 0, 1), (82, .bipush 6, 2), (84, .newarray .int, 2), (86, .putfield 58, 3), (89, .aload_n 0, 1), (90, .bipush 73, 2), (92, .newarray .int, 2), (94, .putfield 62, 3)], [(97, .aload_n 0, 1), (98, .iconst 0, 1), (99, .putfield 65, 3), (102, .aload_n 0, 1), (103, .iconst 0, 1), (104, .putfield 69, 3), (107, .aload_n 0, 1), (108, .iconst (-1), 1), (109, .putfield 72, 3)], [(112, .aload_n 0, 1), (113, .iconst 1, 1), (114, .putfield 75, 3), (117, .return_, 1)]]
def kp_135 : List (Nat × Nat × Nat × Int) := [(1, 5, 0, 0), (7, 9, 8, 0), (9, 4, 102, 0), (10, 1, 11, 0), (16, 9, 10, 0), (18, 4, 120, 0), (19, 1, 11, 1), (23, 9, 5, 0), (25, 4, 41, 0), (26, 1, 11, 2), (30, 9, 2, 0), (32, 4, 15, 0), (33, 1, 11, 3), (37, 9, 4, 0), (39, 4, 32, 0), (40, 1, 11, 4), (44, 9, 0, 0), (46, 4, 1, 0), (47, 1, 11, 5), (51, 9, 6, 0), (53, 4, 78, 0), (54, 1, 11, 6), (58, 1, 11, 7), (62, 1, 11, 8), (65, 1, 11, 9), (69, 1, 11, 10), (72, 1, 11, 11), (75, 1, 11, 12)]
def kr_135 : xR := (kc_135, kp_135, (1, 0, 62, 7025, 11), yX11_init, cX11_init, none)
abbrev cX11_feed : ByteArray := prog_1_method_2_code
def yX11_feed : MethodName := ⟨RX11, "feed", "(IIIII)I"⟩
def kc_136 : List (List (Nat × Instr × Nat)) := [[(0, .aload_n 0, 1), (1, .getfield 10, 3), (4, .getfield 78, 3), (7, .bipush 20, 2), (9, .iadd, 1), (10, .sipush 1600, 3), (13, .if_icmp .le 9, 3)], [(16, .aload_n 0, 1), (17, .iconst 0, 1), (18, .invokevirtual 81, 3), (21, .ireturn, 1), (22, .aload_n 0, 1), (23, .getfield 10, 3), (26, .iload_n 1, 1), (27, .invokevirtual 85, 3), (30, .aload_n 0, 1), (31, .getfield 10, 3)], [(34, .iload_n 2, 1), (35, .invokevirtual 85, 3), (38, .aload_n 0, 1), (39, .getfield 10, 3), (42, .iload_n 3, 1), (43, .invokevirtual 85, 3), (46, .aload_n 0, 1), (47, .getfield 10, 3)], [(50, .iload 4, 2), (52, .invokevirtual 85, 3), (55, .aload_n 0, 1), (56, .getfield 10, 3), (59, .iload 5, 2), (61, .invokevirtual 85, 3)], [(64, .aload_n 0, 1), (65, .getfield 10, 3), (68, .getfield 78, 3), (71, .ireturn, 1)]]
def kp_136 : List (Nat × Nat × Nat × Int) := [(10, 1, 11, 0), (78, 1, 8, 1), (81, 2, 165, 1), (85, 2, 103, 1)]
def kr_136 : xR := (kc_136, kp_136, (6, 1, 0, 0, 11), yX11_feed, cX11_feed, (some .int))
abbrev cX11_end : ByteArray := prog_1_method_3_code
def yX11_end : MethodName := ⟨RX11, "end", "(I)Z"⟩
def kc_137 : List (List (Nat × Instr × Nat)) := [[(0, .iload_n 1, 1), (1, .ifCond .lt 14, 3), (4, .iload_n 1, 1), (5, .aload_n 0, 1), (6, .getfield 10, 3), (9, .getfield 78, 3), (12, .if_icmp .le 11, 3), (15, .aload_n 0, 1)], [(16, .iconst 0, 1), (17, .invokevirtual 81, 3), (20, .pop, 1), (21, .iconst 0, 1), (22, .ireturn, 1), (23, .aload_n 0, 1), (24, .getfield 10, 3), (27, .iload_n 1, 1), (28, .putfield 78, 3), (31, .iconst 1, 1)], [(32, .ireturn, 1)]]
def kp_137 : List (Nat × Nat × Nat × Int) := [(10, 1, 11, 0), (78, 1, 8, 1), (81, 2, 165, 1)]
def kr_137 : xR := (kc_137, kp_137, (2, 2, 0, 0, 11), yX11_end, cX11_end, (some .boolean))
abbrev cX11_town : ByteArray := prog_1_method_4_code
def yX11_town : MethodName := ⟨RX11, "town", "()I"⟩
def kc_138 : List (List (Nat × Instr × Nat)) := [[(0, .aload_n 0, 1), (1, .getfield 19, 3), (4, .aload_n 0, 1), (5, .getfield 10, 3), (8, .aload_n 0, 1), (9, .getfield 26, 3), (12, .getfield 89, 3), (15, .invokevirtual 93, 3)], [(18, .istore_n 1, 1), (19, .aload_n 0, 1), (20, .getfield 10, 3), (23, .iconst 0, 1), (24, .putfield 78, 3), (27, .aload_n 0, 1), (28, .aload_n 0, 1), (29, .getfield 19, 3)], [(32, .getfield 97, 3), (35, .getfield 101, 3), (38, .putfield 69, 3), (41, .aload_n 0, 1), (42, .aload_n 0, 1), (43, .getfield 69, 3), (46, .ifCond .ne 7, 3)], [(49, .iconst (-1), 1), (50, .goto 13, 3), (53, .aload_n 0, 1), (54, .getfield 19, 3), (57, .getfield 97, 3), (60, .getfield 106, 3), (63, .putfield 72, 3)], [(66, .iload_n 1, 1), (67, .iconst (-1), 1), (68, .if_icmp .ne 9, 3), (71, .aload_n 0, 1), (72, .iconst 1, 1), (73, .invokevirtual 81, 3), (76, .ireturn, 1), (77, .aload_n 0, 1), (78, .getfield 26, 3)], [(81, .invokevirtual 107, 3), (84, .aload_n 0, 1), (85, .getfield 33, 3), (88, .iconst 0, 1), (89, .putfield 110, 3), (92, .aload_n 0, 1), (93, .getfield 47, 3)], [(96, .iconst 0, 1), (97, .putfield 113, 3), (100, .aload_n 0, 1), (101, .getfield 54, 3), (104, .iconst 0, 1), (105, .putfield 116, 3), (108, .iload_n 1, 1), (109, .ireturn, 1)]]
def kp_138 : List (Nat × Nat × Nat × Int) := [(10, 1, 11, 0), (19, 1, 11, 1), (26, 1, 11, 2), (33, 1, 11, 3), (47, 1, 11, 5), (54, 1, 11, 6), (69, 1, 11, 10), (72, 1, 11, 11), (78, 1, 8, 1), (81, 2, 165, 1), (89, 1, 5, 1), (93, 2, 121, 2), (97, 1, 10, 1), (101, 1, 3, 6), (106, 1, 3, 7), (107, 2, 42, 0), (110, 1, 2, 2), (113, 1, 0, 2), (116, 1, 6, 6)]
def kr_138 : xR := (kc_138, kp_138, (2, 1, 0, 0, 11), yX11_town, cX11_town, (some .int))
abbrev cX11_fault : ByteArray := prog_1_method_5_code
def yX11_fault : MethodName := ⟨RX11, "fault", "(I)I"⟩
def kc_139 : List (List (Nat × Instr × Nat)) := [[(0, .iload_n 1, 1), (1, .ifCond .ne 8, 3), (4, .aload_n 0, 1), (5, .getfield 69, 3), (8, .ireturn, 1), (9, .iload_n 1, 1), (10, .iconst 1, 1), (11, .if_icmp .ne 10, 3), (14, .aload_n 0, 1), (15, .getfield 72, 3)], [(18, .goto 4, 3), (21, .iconst (-1), 1), (22, .ireturn, 1)]]
def kp_139 : List (Nat × Nat × Nat × Int) := [(69, 1, 11, 10), (72, 1, 11, 11)]
def kr_139 : xR := (kc_139, kp_139, (2, 1, 0, 0, 11), yX11_fault, cX11_fault, (some .int))
abbrev cX11_has : ByteArray := prog_1_method_6_code
def yX11_has : MethodName := ⟨RX11, "has", "(I)I"⟩
def kc_140 : List (List (Nat × Instr × Nat)) := [[(0, .iload_n 1, 1), (1, .tableswitch 156 0 10 #[59, 70, 81, 92, 103, 111, 119, 127, 135, 143, 151], 59)], [], [], [(60, .aload_n 0, 1), (61, .getfield 26, 3)], [(64, .getfield 120, 3), (67, .getfield 123, 3), (70, .ireturn, 1), (71, .aload_n 0, 1), (72, .getfield 26, 3), (75, .getfield 120, 3), (78, .getfield 128, 3)], [(81, .ireturn, 1), (82, .aload_n 0, 1), (83, .getfield 26, 3), (86, .getfield 120, 3), (89, .getfield 131, 3), (92, .ireturn, 1), (93, .aload_n 0, 1), (94, .getfield 26, 3)], [(97, .getfield 120, 3), (100, .getfield 134, 3), (103, .ireturn, 1), (104, .aload_n 0, 1), (105, .getfield 26, 3), (108, .invokevirtual 137, 3), (111, .ireturn, 1)], [(112, .aload_n 0, 1), (113, .getfield 26, 3), (116, .invokevirtual 141, 3), (119, .ireturn, 1), (120, .aload_n 0, 1), (121, .getfield 26, 3), (124, .invokevirtual 144, 3), (127, .ireturn, 1)], [(128, .aload_n 0, 1), (129, .getfield 26, 3), (132, .invokevirtual 147, 3), (135, .ireturn, 1), (136, .aload_n 0, 1), (137, .getfield 26, 3), (140, .invokevirtual 150, 3), (143, .ireturn, 1)], [(144, .aload_n 0, 1), (145, .getfield 33, 3), (148, .getfield 110, 3), (151, .ireturn, 1), (152, .aload_n 0, 1), (153, .getfield 75, 3), (156, .ireturn, 1), (157, .iconst (-1), 1), (158, .ireturn, 1)]]
def kp_140 : List (Nat × Nat × Nat × Int) := [(26, 1, 11, 2), (33, 1, 11, 3), (75, 1, 11, 12), (110, 1, 2, 2), (120, 1, 5, 0), (123, 1, 9, 0), (128, 1, 9, 1), (131, 1, 9, 2), (134, 1, 9, 3), (137, 2, 49, 0), (141, 2, 50, 0), (144, 2, 51, 0), (147, 2, 52, 0), (150, 2, 48, 0)]
def kr_140 : xR := (kc_140, kp_140, (2, 1, 0, 0, 11), yX11_has, cX11_has, (some .int))
abbrev cX11_letter : ByteArray := prog_1_method_7_code
def yX11_letter : MethodName := ⟨RX11, "letter", "(III)I"⟩
def kc_141 : List (List (Nat × Instr × Nat)) := [[(0, .iload_n 3, 1), (1, .ifCond .lt 8, 3), (4, .iload_n 3, 1), (5, .iconst 5, 1), (6, .if_icmp .le 5, 3), (9, .iconst (-1), 1), (10, .ireturn, 1), (11, .iload_n 1, 1), (12, .ifCond .ne 34, 3), (15, .aload_n 0, 1)], [(16, .getfield 26, 3), (19, .getfield 120, 3), (22, .iload_n 2, 1), (23, .invokevirtual 153, 3), (26, .ifCond .eq 20, 3), (29, .aload_n 0, 1), (30, .getfield 26, 3)], [(33, .getfield 120, 3), (36, .getfield 157, 3), (39, .iload_n 2, 1), (40, .iaload, 1), (41, .iload_n 3, 1), (42, .invokestatic 160, 3), (45, .ireturn, 1), (46, .iload_n 1, 1), (47, .iconst 1, 1)], [(48, .if_icmp .ne 34, 3), (51, .aload_n 0, 1), (52, .getfield 26, 3), (55, .getfield 120, 3), (58, .iload_n 2, 1), (59, .invokevirtual 164, 3), (62, .ifCond .eq 20, 3)], [(65, .aload_n 0, 1), (66, .getfield 26, 3), (69, .getfield 120, 3), (72, .getfield 167, 3), (75, .iload_n 2, 1), (76, .iaload, 1), (77, .iload_n 3, 1), (78, .invokestatic 160, 3)], [(81, .ireturn, 1), (82, .iconst (-1), 1), (83, .ireturn, 1)]]
def kp_141 : List (Nat × Nat × Nat × Int) := [(26, 1, 11, 2), (120, 1, 5, 0), (153, 2, 106, 1), (157, 1, 9, 4), (164, 2, 107, 1), (167, 1, 9, 8)]
def kr_141 : xR := (kc_141, kp_141, (4, 1, 0, 0, 11), yX11_letter, cX11_letter, (some .int))
abbrev cX11_room : ByteArray := prog_1_method_8_code
def yX11_room : MethodName := ⟨RX11, "room", "(II)I"⟩
def kc_142 : List (List (Nat × Instr × Nat)) := [[(0, .aload_n 0, 1), (1, .getfield 26, 3), (4, .getfield 120, 3), (7, .iload_n 1, 1), (8, .invokevirtual 153, 3), (11, .ifCond .ne 5, 3), (14, .iconst (-1), 1), (15, .ireturn, 1)], [(16, .iload_n 2, 1), (17, .tableswitch 102 0 5 #[39, 52, 65, 75, 84, 93], 39)], [], [(56, .aload_n 0, 1), (57, .getfield 26, 3), (60, .getfield 120, 3), (63, .getfield 170, 3)], [(66, .iload_n 1, 1), (67, .iaload, 1), (68, .ireturn, 1), (69, .aload_n 0, 1), (70, .getfield 26, 3), (73, .getfield 120, 3), (76, .getfield 173, 3), (79, .iload_n 1, 1)], [(80, .iaload, 1), (81, .ireturn, 1), (82, .aload_n 0, 1), (83, .getfield 26, 3), (86, .iload_n 1, 1), (87, .iconst (-1), 1), (88, .invokevirtual 176, 3), (91, .ireturn, 1), (92, .aload_n 0, 1), (93, .getfield 26, 3)], [(96, .iload_n 1, 1), (97, .invokevirtual 179, 3), (100, .ireturn, 1), (101, .aload_n 0, 1), (102, .getfield 26, 3), (105, .iload_n 1, 1), (106, .invokevirtual 182, 3), (109, .ireturn, 1), (110, .aload_n 0, 1), (111, .getfield 26, 3)], [(114, .iload_n 1, 1), (115, .invokevirtual 185, 3), (118, .ireturn, 1), (119, .iconst (-1), 1), (120, .ireturn, 1)]]
def kp_142 : List (Nat × Nat × Nat × Int) := [(26, 1, 11, 2), (120, 1, 5, 0), (153, 2, 106, 1), (170, 1, 9, 5), (173, 1, 9, 6)]
def kr_142 : xR := (kc_142, kp_142, (3, 1, 0, 0, 11), yX11_room, cX11_room, (some .int))
abbrev cX11_way : ByteArray := prog_1_method_9_code
def yX11_way : MethodName := ⟨RX11, "way", "(II)I"⟩
def kc_143 : List (List (Nat × Instr × Nat)) := [[(0, .aload_n 0, 1), (1, .getfield 26, 3), (4, .getfield 120, 3), (7, .iload_n 1, 1), (8, .iload_n 2, 1), (9, .invokevirtual 188, 3), (12, .istore_n 3, 1), (13, .iload_n 3, 1), (14, .ifCond .le 7, 3)], [(17, .iload_n 3, 1), (18, .goto 4, 3), (21, .iconst (-1), 1), (22, .ireturn, 1)]]
def kp_143 : List (Nat × Nat × Nat × Int) := [(26, 1, 11, 2), (120, 1, 5, 0), (188, 2, 117, 2)]
def kr_143 : xR := (kc_143, kp_143, (4, 1, 0, 0, 11), yX11_way, cX11_way, (some .int))
abbrev cX11_person : ByteArray := prog_1_method_10_code
def yX11_person : MethodName := ⟨RX11, "person", "(II)I"⟩
def kc_144 : List (List (Nat × Instr × Nat)) := [[(0, .aload_n 0, 1), (1, .getfield 26, 3), (4, .getfield 120, 3), (7, .iload_n 1, 1), (8, .invokevirtual 164, 3), (11, .ifCond .ne 5, 3), (14, .iconst (-1), 1), (15, .ireturn, 1)], [(16, .iload_n 2, 1), (17, .tableswitch 193 0 10 #[59, 68, 77, 94, 111, 120, 129, 142, 155, 168, 181], 59)], [], [], [(76, .aload_n 0, 1), (77, .getfield 26, 3)], [(80, .iload_n 1, 1), (81, .invokevirtual 191, 3), (84, .ireturn, 1), (85, .aload_n 0, 1), (86, .getfield 26, 3), (89, .iload_n 1, 1), (90, .invokevirtual 194, 3), (93, .ireturn, 1), (94, .aload_n 0, 1), (95, .getfield 26, 3)], [(98, .iload_n 1, 1), (99, .invokevirtual 197, 3), (102, .ifCond .eq 7, 3), (105, .iconst 1, 1), (106, .goto 4, 3), (109, .iconst 0, 1), (110, .ireturn, 1), (111, .aload_n 0, 1)], [(112, .getfield 26, 3), (115, .iload_n 1, 1), (116, .invokevirtual 200, 3), (119, .ifCond .eq 7, 3), (122, .iconst 1, 1), (123, .goto 4, 3), (126, .iconst 0, 1), (127, .ireturn, 1)], [(128, .aload_n 0, 1), (129, .getfield 26, 3), (132, .iload_n 1, 1), (133, .invokevirtual 203, 3), (136, .ireturn, 1), (137, .aload_n 0, 1), (138, .getfield 26, 3), (141, .iload_n 1, 1), (142, .invokevirtual 206, 3)], [(145, .ireturn, 1), (146, .aload_n 0, 1), (147, .getfield 26, 3), (150, .getfield 120, 3), (153, .getfield 209, 3), (156, .iload_n 1, 1), (157, .iaload, 1), (158, .ireturn, 1), (159, .aload_n 0, 1)], [(160, .getfield 26, 3), (163, .getfield 120, 3), (166, .getfield 212, 3), (169, .iload_n 1, 1), (170, .iaload, 1), (171, .ireturn, 1), (172, .aload_n 0, 1), (173, .getfield 26, 3)], [(176, .getfield 120, 3), (179, .getfield 215, 3), (182, .iload_n 1, 1), (183, .iaload, 1), (184, .ireturn, 1), (185, .aload_n 0, 1), (186, .getfield 26, 3), (189, .getfield 120, 3)], [(192, .getfield 218, 3), (195, .iload_n 1, 1), (196, .iaload, 1), (197, .ireturn, 1), (198, .aload_n 0, 1), (199, .getfield 26, 3), (202, .getfield 120, 3), (205, .iload_n 1, 1), (206, .invokevirtual 221, 3)], [(209, .ireturn, 1), (210, .iconst (-1), 1), (211, .ireturn, 1)]]
def kp_144 : List (Nat × Nat × Nat × Int) := [(26, 1, 11, 2), (120, 1, 5, 0), (164, 2, 107, 1), (209, 1, 9, 12), (212, 1, 9, 9), (215, 1, 9, 10), (218, 1, 9, 11)]
def kr_144 : xR := (kc_144, kp_144, (3, 1, 0, 0, 11), yX11_person, cX11_person, (some .int))
abbrev cX11_fits : ByteArray := prog_1_method_11_code
def yX11_fits : MethodName := ⟨RX11, "fits", "(II)I"⟩
def kc_145 : List (List (Nat × Instr × Nat)) := [[(0, .aload_n 0, 1), (1, .getfield 26, 3), (4, .getfield 120, 3), (7, .iload_n 1, 1), (8, .invokevirtual 164, 3), (11, .ifCond .eq 29, 3), (14, .aload_n 0, 1), (15, .getfield 26, 3)], [(18, .getfield 120, 3), (21, .iload_n 2, 1), (22, .invokevirtual 153, 3), (25, .ifCond .eq 15, 3), (28, .aload_n 0, 1), (29, .getfield 26, 3)], [(32, .iload_n 1, 1), (33, .invokevirtual 194, 3), (36, .iload_n 2, 1), (37, .if_icmp .ne 5, 3), (40, .iconst (-1), 1), (41, .ireturn, 1), (42, .aload_n 0, 1), (43, .getfield 26, 3), (46, .iload_n 2, 1), (47, .iload_n 1, 1)], [(48, .invokevirtual 224, 3), (51, .ifCond .eq 7, 3), (54, .iconst 1, 1), (55, .goto 4, 3), (58, .iconst 0, 1), (59, .ireturn, 1)]]
def kp_145 : List (Nat × Nat × Nat × Int) := [(26, 1, 11, 2), (120, 1, 5, 0), (153, 2, 106, 1), (164, 2, 107, 1)]
def kr_145 : xR := (kc_145, kp_145, (3, 1, 0, 0, 11), yX11_fits, cX11_fits, (some .int))
abbrev cX11_takes : ByteArray := prog_1_method_12_code
def yX11_takes : MethodName := ⟨RX11, "takes", "(III)I"⟩
def kc_146 : List (List (Nat × Instr × Nat)) := [[(0, .aload_n 0, 1), (1, .getfield 26, 3), (4, .iload_n 1, 1), (5, .iload_n 2, 1), (6, .iload_n 3, 1), (7, .invokevirtual 228, 3), (10, .ireturn, 1)]]
def kp_146 : List (Nat × Nat × Nat × Int) := [(26, 1, 11, 2), (228, 2, 61, 3)]
def kr_146 : xR := (kc_146, kp_146, (4, 1, 0, 0, 11), yX11_takes, cX11_takes, (some .int))
abbrev cX11_go : ByteArray := prog_1_method_13_code
def yX11_go : MethodName := ⟨RX11, "go", "(III)I"⟩
def kc_147 : List (List (Nat × Instr × Nat)) := [[(0, .aload_n 0, 1), (1, .getfield 26, 3), (4, .iload_n 1, 1), (5, .iload_n 2, 1), (6, .iload_n 3, 1), (7, .invokevirtual 228, 3), (10, .istore 4, 2), (12, .iload 4, 2), (14, .iconst (-1), 1), (15, .if_icmp .ne 9, 3)], [(18, .aload_n 0, 1), (19, .iconst 2, 1), (20, .invokevirtual 81, 3), (23, .ireturn, 1), (24, .aload_n 0, 1), (25, .getfield 33, 3), (28, .aload_n 0, 1), (29, .getfield 26, 3)], [(32, .getfield 232, 3), (35, .invokevirtual 235, 3), (38, .aload_n 0, 1), (39, .iload_n 1, 1), (40, .iload_n 2, 1), (41, .iload_n 3, 1), (42, .iload 4, 2), (44, .invokevirtual 239, 3), (47, .aload_n 0, 1)], [(48, .getfield 26, 3), (51, .iload_n 1, 1), (52, .invokevirtual 203, 3), (55, .ireturn, 1)]]
def kp_147 : List (Nat × Nat × Nat × Int) := [(26, 1, 11, 2), (33, 1, 11, 3), (81, 2, 165, 1), (228, 2, 61, 3), (232, 1, 5, 2), (235, 2, 16, 1)]
def kr_147 : xR := (kc_147, kp_147, (5, 1, 0, 0, 11), yX11_go, cX11_go, (some .int))
abbrev cX11_stay : ByteArray := prog_1_method_14_code
def yX11_stay : MethodName := ⟨RX11, "stay", "(II)I"⟩
def kc_148 : List (List (Nat × Instr × Nat)) := [[(0, .aload_n 0, 1), (1, .getfield 26, 3), (4, .getfield 120, 3), (7, .iload_n 1, 1), (8, .invokevirtual 164, 3), (11, .ifCond .eq 15, 3), (14, .iload_n 2, 1), (15, .iconst 1, 1)], [(16, .if_icmp .lt 10, 3), (19, .iload_n 2, 1), (20, .sipush 999, 3), (23, .if_icmp .le 9, 3), (26, .aload_n 0, 1), (27, .iconst 2, 1), (28, .invokevirtual 81, 3), (31, .ireturn, 1)], [(32, .aload_n 0, 1), (33, .getfield 33, 3), (36, .aload_n 0, 1), (37, .getfield 26, 3), (40, .getfield 232, 3), (43, .invokevirtual 235, 3), (46, .aload_n 0, 1), (47, .getfield 26, 3)], [(50, .iload_n 1, 1), (51, .iload_n 2, 1), (52, .invokevirtual 243, 3), (55, .aload_n 0, 1), (56, .getfield 26, 3), (59, .iload_n 1, 1), (60, .invokevirtual 206, 3), (63, .ireturn, 1)]]
def kp_148 : List (Nat × Nat × Nat × Int) := [(26, 1, 11, 2), (33, 1, 11, 3), (81, 2, 165, 1), (120, 1, 5, 0), (164, 2, 107, 1), (232, 1, 5, 2), (235, 2, 16, 1)]
def kr_148 : xR := (kc_148, kp_148, (3, 1, 0, 0, 11), yX11_stay, cX11_stay, (some .int))
abbrev cX11_mend : ByteArray := prog_1_method_15_code
def yX11_mend : MethodName := ⟨RX11, "mend", "(II)Z"⟩
def kc_149 : List (List (Nat × Instr × Nat)) := [[(0, .aload_n 0, 1), (1, .getfield 26, 3), (4, .iload_n 1, 1), (5, .iload_n 2, 1), (6, .invokevirtual 247, 3), (9, .ifCond .ne 11, 3), (12, .aload_n 0, 1), (13, .iconst 3, 1), (14, .invokevirtual 81, 3)], [(17, .pop, 1), (18, .iconst 0, 1), (19, .ireturn, 1), (20, .aload_n 0, 1), (21, .getfield 33, 3), (24, .aload_n 0, 1), (25, .getfield 26, 3), (28, .getfield 232, 3), (31, .invokevirtual 235, 3)], [(34, .aload_n 0, 1), (35, .getfield 26, 3), (38, .iload_n 1, 1), (39, .iload_n 2, 1), (40, .invokevirtual 250, 3), (43, .iconst 1, 1), (44, .ireturn, 1)]]
def kp_149 : List (Nat × Nat × Nat × Int) := [(26, 1, 11, 2), (33, 1, 11, 3), (81, 2, 165, 1), (232, 1, 5, 2), (235, 2, 16, 1), (247, 2, 70, 2)]
def kr_149 : xR := (kc_149, kp_149, (3, 2, 0, 0, 11), yX11_mend, cX11_mend, (some .boolean))
abbrev cX11_days : ByteArray := prog_1_method_16_code
def yX11_days : MethodName := ⟨RX11, "days", "(I)I"⟩
def kc_150 : List (List (Nat × Instr × Nat)) := [[(0, .iload_n 1, 1), (1, .iconst 1, 1), (2, .if_icmp .lt 9, 3), (5, .iload_n 1, 1), (6, .bipush 30, 2), (8, .if_icmp .le 9, 3), (11, .aload_n 0, 1), (12, .iconst 3, 1), (13, .invokevirtual 81, 3)], [(16, .ireturn, 1), (17, .aload_n 0, 1), (18, .getfield 33, 3), (21, .aload_n 0, 1), (22, .getfield 26, 3), (25, .getfield 232, 3), (28, .invokevirtual 235, 3), (31, .iconst 0, 1)], [(32, .istore_n 2, 1), (33, .iconst 0, 1), (34, .istore_n 3, 1), (35, .iload_n 3, 1), (36, .iload_n 1, 1), (37, .if_icmp .ge 42, 3), (40, .iconst 0, 1), (41, .istore 4, 2), (43, .iload 4, 2), (45, .aload_n 0, 1), (46, .getfield 26, 3)], [(49, .getfield 120, 3), (52, .getfield 128, 3), (55, .if_icmp .ge 18, 3), (58, .iload_n 2, 1), (59, .aload_n 0, 1), (60, .iload 4, 2), (62, .invokevirtual 253, 3)], [(65, .iadd, 1), (66, .istore_n 2, 1), (67, .iinc 4 1, 3), (70, .goto (-27), 3), (73, .iinc 3 1, 3), (76, .goto (-41), 3), (79, .iload_n 2, 1)], [(80, .ireturn, 1)]]
def kp_150 : List (Nat × Nat × Nat × Int) := [(26, 1, 11, 2), (33, 1, 11, 3), (81, 2, 165, 1), (120, 1, 5, 0), (128, 1, 9, 1), (232, 1, 5, 2), (235, 2, 16, 1)]
def kr_150 : xR := (kc_150, kp_150, (5, 1, 0, 0, 11), yX11_days, cX11_days, (some .int))
abbrev cX11_undo : ByteArray := prog_1_method_17_code
def yX11_undo : MethodName := ⟨RX11, "undo", "()Z"⟩
def kc_151 : List (List (Nat × Instr × Nat)) := [[(0, .aload_n 0, 1), (1, .getfield 33, 3), (4, .getfield 110, 3), (7, .ifCond .ne 11, 3), (10, .aload_n 0, 1), (11, .iconst 4, 1), (12, .invokevirtual 81, 3), (15, .pop, 1)], [(16, .iconst 0, 1), (17, .ireturn, 1), (18, .aload_n 0, 1), (19, .getfield 33, 3), (22, .aload_n 0, 1), (23, .getfield 26, 3), (26, .getfield 232, 3), (29, .invokevirtual 256, 3)], [(32, .iconst 1, 1), (33, .ireturn, 1)]]
def kp_151 : List (Nat × Nat × Nat × Int) := [(26, 1, 11, 2), (33, 1, 11, 3), (81, 2, 165, 1), (110, 1, 2, 2), (232, 1, 5, 2)]
def kr_151 : xR := (kc_151, kp_151, (1, 2, 0, 0, 11), yX11_undo, cX11_undo, (some .boolean))
abbrev cX11_seed : ByteArray := prog_1_method_18_code
def yX11_seed : MethodName := ⟨RX11, "seed", "(I)Z"⟩
def kc_152 : List (List (Nat × Instr × Nat)) := [[(0, .iload_n 1, 1), (1, .ifCond .ge 11, 3), (4, .aload_n 0, 1), (5, .iconst 5, 1), (6, .invokevirtual 81, 3), (9, .pop, 1), (10, .iconst 0, 1), (11, .ireturn, 1), (12, .aload_n 0, 1), (13, .iload_n 1, 1), (14, .putfield 75, 3)], [(17, .iconst 1, 1), (18, .ireturn, 1)]]
def kp_152 : List (Nat × Nat × Nat × Int) := [(75, 1, 11, 12), (81, 2, 165, 1)]
def kr_152 : xR := (kc_152, kp_152, (2, 2, 0, 0, 11), yX11_seed, cX11_seed, (some .boolean))
abbrev cX11_kept : ByteArray := prog_1_method_19_code
def yX11_kept : MethodName := ⟨RX11, "kept", "(II)I"⟩
def kc_153 : List (List (Nat × Instr × Nat)) := [[(0, .aload_n 0, 1), (1, .getfield 26, 3), (4, .iload_n 1, 1), (5, .iload_n 2, 1), (6, .invokevirtual 259, 3), (9, .ireturn, 1)]]
def kp_153 : List (Nat × Nat × Nat × Int) := [(26, 1, 11, 2), (259, 2, 67, 2)]
def kr_153 : xR := (kc_153, kp_153, (3, 1, 0, 0, 11), yX11_kept, cX11_kept, (some .int))
abbrev cX11_route : ByteArray := prog_1_method_20_code
def yX11_route : MethodName := ⟨RX11, "route", "(IIII)I"⟩
def kc_154 : List (List (Nat × Instr × Nat)) := [[(0, .aload_n 0, 1), (1, .getfield 26, 3), (4, .getfield 120, 3), (7, .iload_n 1, 1), (8, .invokevirtual 164, 3), (11, .ifCond .eq 12, 3), (14, .aload_n 0, 1), (15, .iload_n 2, 1)], [(16, .iload_n 3, 1), (17, .invokevirtual 262, 3), (20, .ifCond .ne 5, 3), (23, .iconst (-1), 1), (24, .ireturn, 1), (25, .aload_n 0, 1), (26, .getfield 40, 3), (29, .aload_n 0, 1), (30, .getfield 26, 3)], [(33, .iload_n 1, 1), (34, .iload_n 2, 1), (35, .invokevirtual 265, 3), (38, .aload_n 0, 1), (39, .getfield 40, 3), (42, .aload_n 0, 1), (43, .getfield 26, 3), (46, .getfield 120, 3)], [(49, .getfield 123, 3), (52, .aload_n 0, 1), (53, .getfield 26, 3), (56, .iload_n 2, 1), (57, .invokevirtual 194, 3), (60, .iload_n 3, 1), (61, .invokevirtual 269, 3)], [(64, .iload 4, 2), (66, .iconst (-1), 1), (67, .if_icmp .ne 13, 3), (70, .aload_n 0, 1), (71, .getfield 40, 3), (74, .getfield 273, 3), (77, .goto 12, 3)], [(80, .aload_n 0, 1), (81, .getfield 40, 3), (84, .iload 4, 2), (86, .invokevirtual 276, 3), (89, .ireturn, 1)]]
def kp_154 : List (Nat × Nat × Nat × Int) := [(26, 1, 11, 2), (40, 1, 11, 4), (120, 1, 5, 0), (123, 1, 9, 0), (164, 2, 107, 1), (262, 2, 167, 2), (273, 1, 4, 6)]
def kr_154 : xR := (kc_154, kp_154, (5, 1, 0, 0, 11), yX11_route, cX11_route, (some .int))
abbrev cX11_bearer : ByteArray := prog_1_method_21_code
def yX11_bearer : MethodName := ⟨RX11, "bearer", "(III)I"⟩
def kc_155 : List (List (Nat × Instr × Nat)) := [[(0, .aload_n 0, 1), (1, .iload_n 1, 1), (2, .iload_n 2, 1), (3, .invokevirtual 262, 3), (6, .ifCond .ne 5, 3), (9, .iconst (-1), 1), (10, .ireturn, 1), (11, .aload_n 0, 1), (12, .getfield 40, 3), (15, .aload_n 0, 1)], [(16, .getfield 26, 3), (19, .iload_n 1, 1), (20, .invokevirtual 279, 3), (23, .aload_n 0, 1), (24, .getfield 40, 3), (27, .aload_n 0, 1), (28, .getfield 26, 3), (31, .getfield 120, 3)], [(34, .getfield 123, 3), (37, .aload_n 0, 1), (38, .getfield 26, 3), (41, .iload_n 1, 1), (42, .invokevirtual 194, 3), (45, .iload_n 2, 1), (46, .invokevirtual 269, 3)], [(49, .iload_n 3, 1), (50, .iconst (-1), 1), (51, .if_icmp .ne 13, 3), (54, .aload_n 0, 1), (55, .getfield 40, 3), (58, .getfield 273, 3), (61, .goto 11, 3)], [(64, .aload_n 0, 1), (65, .getfield 40, 3), (68, .iload_n 3, 1), (69, .invokevirtual 283, 3), (72, .ireturn, 1)]]
def kp_155 : List (Nat × Nat × Nat × Int) := [(26, 1, 11, 2), (40, 1, 11, 4), (120, 1, 5, 0), (123, 1, 9, 0), (262, 2, 167, 2), (273, 1, 4, 6)]
def kr_155 : xR := (kc_155, kp_155, (4, 1, 0, 0, 11), yX11_bearer, cX11_bearer, (some .int))
abbrev cX11_errand : ByteArray := prog_1_method_22_code
def yX11_errand : MethodName := ⟨RX11, "errand", "(I)I"⟩
def kc_156 : List (List (Nat × Instr × Nat)) := [[(0, .aload_n 0, 1), (1, .getfield 47, 3), (4, .aload_n 0, 1), (5, .getfield 26, 3), (8, .aload_n 0, 1), (9, .getfield 10, 3), (12, .iload_n 1, 1), (13, .invokevirtual 286, 3)], [(16, .istore_n 2, 1), (17, .iload_n 2, 1), (18, .ifCond .eq 22, 3), (21, .aload_n 0, 1), (22, .getfield 47, 3), (25, .aload_n 0, 1), (26, .getfield 26, 3), (29, .aload_n 0, 1), (30, .getfield 10, 3)], [(33, .iload_n 1, 1), (34, .invokevirtual 290, 3), (37, .goto 8, 3), (40, .aload_n 0, 1), (41, .iconst 5, 1), (42, .invokevirtual 81, 3), (45, .istore_n 3, 1), (46, .aload_n 0, 1), (47, .getfield 10, 3)], [(50, .iconst 0, 1), (51, .putfield 78, 3), (54, .iload_n 3, 1), (55, .ireturn, 1)]]
def kp_156 : List (Nat × Nat × Nat × Int) := [(10, 1, 11, 0), (26, 1, 11, 2), (47, 1, 11, 5), (78, 1, 8, 1), (81, 2, 165, 1), (286, 2, 2, 3)]
def kr_156 : xR := (kc_156, kp_156, (4, 1, 0, 0, 11), yX11_errand, cX11_errand, (some .int))
abbrev cX11_along : ByteArray := prog_1_method_23_code
def yX11_along : MethodName := ⟨RX11, "along", "(I)I"⟩
def kc_157 : List (List (Nat × Instr × Nat)) := [[(0, .iload_n 1, 1), (1, .ifCond .lt 26, 3), (4, .iload_n 1, 1), (5, .aload_n 0, 1), (6, .getfield 47, 3), (9, .getfield 113, 3), (12, .if_icmp .ge 15, 3), (15, .aload_n 0, 1)], [(16, .getfield 47, 3), (19, .getfield 294, 3), (22, .iload_n 1, 1), (23, .iaload, 1), (24, .goto 4, 3), (27, .iconst (-1), 1), (28, .ireturn, 1)]]
def kp_157 : List (Nat × Nat × Nat × Int) := [(47, 1, 11, 5), (113, 1, 0, 2), (294, 1, 0, 1)]
def kr_157 : xR := (kc_157, kp_157, (2, 1, 0, 0, 11), yX11_along, cX11_along, (some .int))
abbrev cX11_seated : ByteArray := prog_1_method_24_code
def yX11_seated : MethodName := ⟨RX11, "seated", "(II)I"⟩
def kc_158 : List (List (Nat × Instr × Nat)) := [[(0, .aload_n 0, 1), (1, .getfield 26, 3), (4, .getfield 120, 3), (7, .iload_n 1, 1), (8, .invokevirtual 153, 3), (11, .ifCond .eq 23, 3), (14, .iload_n 2, 1), (15, .ifCond .lt 19, 3)], [(18, .iload_n 2, 1), (19, .iconst 1, 1), (20, .aload_n 0, 1), (21, .getfield 26, 3), (24, .getfield 120, 3), (27, .getfield 128, 3), (30, .ishl, 1), (31, .if_icmp .lt 5, 3)], [(34, .iconst (-1), 1), (35, .ireturn, 1), (36, .aload_n 0, 1), (37, .getfield 54, 3), (40, .aload_n 0, 1), (41, .getfield 26, 3), (44, .iload_n 1, 1), (45, .iload_n 2, 1), (46, .invokevirtual 297, 3)], [(49, .ireturn, 1)]]
def kp_158 : List (Nat × Nat × Nat × Int) := [(26, 1, 11, 2), (54, 1, 11, 6), (120, 1, 5, 0), (128, 1, 9, 1), (153, 2, 106, 1)]
def kr_158 : xR := (kc_158, kp_158, (3, 1, 0, 0, 11), yX11_seated, cX11_seated, (some .int))
abbrev cX11_standing : ByteArray := prog_1_method_25_code
def yX11_standing : MethodName := ⟨RX11, "standing", "()I"⟩
def kc_159 : List (List (Nat × Instr × Nat)) := [[(0, .aload_n 0, 1), (1, .getfield 54, 3), (4, .aload_n 0, 1), (5, .getfield 26, 3), (8, .getfield 120, 3), (11, .aload_n 0, 1), (12, .getfield 10, 3), (15, .invokevirtual 301, 3)], [(18, .istore_n 1, 1), (19, .iload_n 1, 1), (20, .ifCond .eq 17, 3), (23, .aload_n 0, 1), (24, .getfield 54, 3), (27, .aload_n 0, 1), (28, .getfield 26, 3), (31, .invokevirtual 304, 3)], [(34, .goto 8, 3), (37, .aload_n 0, 1), (38, .iconst 5, 1), (39, .invokevirtual 81, 3), (42, .istore_n 2, 1), (43, .aload_n 0, 1), (44, .getfield 10, 3), (47, .iconst 0, 1)], [(48, .putfield 78, 3), (51, .iload_n 2, 1), (52, .ireturn, 1)]]
def kp_159 : List (Nat × Nat × Nat × Int) := [(10, 1, 11, 0), (26, 1, 11, 2), (54, 1, 11, 6), (78, 1, 8, 1), (81, 2, 165, 1), (120, 1, 5, 0), (301, 2, 81, 2)]
def kr_159 : xR := (kc_159, kp_159, (3, 1, 0, 0, 11), yX11_standing, cX11_standing, (some .int))
abbrev cX11_where : ByteArray := prog_1_method_26_code
def yX11_where : MethodName := ⟨RX11, "where", "(II)I"⟩
def kc_160 : List (List (Nat × Instr × Nat)) := [[(0, .aload_n 0, 1), (1, .getfield 54, 3), (4, .getfield 116, 3), (7, .ifCond .eq 31, 3), (10, .aload_n 0, 1), (11, .getfield 26, 3), (14, .getfield 120, 3)], [(17, .iload_n 1, 1), (18, .invokevirtual 164, 3), (21, .ifCond .eq 17, 3), (24, .aload_n 0, 1), (25, .getfield 26, 3), (28, .getfield 120, 3), (31, .iload_n 2, 1)], [(32, .invokevirtual 153, 3), (35, .ifCond .ne 5, 3), (38, .iconst (-1), 1), (39, .ireturn, 1), (40, .aload_n 0, 1), (41, .getfield 54, 3), (44, .getfield 308, 3), (47, .iload_n 1, 1)], [(48, .bipush 8, 2), (50, .imul, 1), (51, .iload_n 2, 1), (52, .iadd, 1), (53, .iaload, 1), (54, .ireturn, 1)]]
def kp_160 : List (Nat × Nat × Nat × Int) := [(26, 1, 11, 2), (54, 1, 11, 6), (116, 1, 6, 6), (120, 1, 5, 0), (153, 2, 106, 1), (164, 2, 107, 1), (308, 1, 6, 5)]
def kr_160 : xR := (kc_160, kp_160, (3, 1, 0, 0, 11), yX11_where, cX11_where, (some .int))
abbrev cX11_image : ByteArray := prog_1_method_27_code
def yX11_image : MethodName := ⟨RX11, "image", "()I"⟩
def kc_161 : List (List (Nat × Instr × Nat)) := [[(0, .aload_n 0, 1), (1, .aload_n 0, 1), (2, .getfield 26, 3), (5, .aload_n 0, 1), (6, .getfield 62, 3), (9, .invokevirtual 311, 3), (12, .putfield 65, 3), (15, .aload_n 0, 1)], [(16, .getfield 65, 3), (19, .ireturn, 1)]]
def kp_161 : List (Nat × Nat × Nat × Int) := [(26, 1, 11, 2), (62, 1, 11, 8), (65, 1, 11, 9), (311, 2, 72, 1)]
def kr_161 : xR := (kc_161, kp_161, (1, 1, 0, 0, 11), yX11_image, cX11_image, (some .int))
abbrev cX11_octet : ByteArray := prog_1_method_28_code
def yX11_octet : MethodName := ⟨RX11, "octet", "(I)I"⟩
def kc_162 : List (List (Nat × Instr × Nat)) := [[(0, .iload_n 1, 1), (1, .ifCond .lt 20, 3), (4, .iload_n 1, 1), (5, .aload_n 0, 1), (6, .getfield 65, 3), (9, .if_icmp .ge 12, 3), (12, .aload_n 0, 1), (13, .getfield 62, 3)], [(16, .iload_n 1, 1), (17, .iaload, 1), (18, .goto 4, 3), (21, .iconst (-1), 1), (22, .ireturn, 1)]]
def kp_162 : List (Nat × Nat × Nat × Int) := [(62, 1, 11, 8), (65, 1, 11, 9)]
def kr_162 : xR := (kc_162, kp_162, (2, 1, 0, 0, 11), yX11_octet, cX11_octet, (some .int))
abbrev cX11_on : ByteArray := prog_1_method_29_code
def yX11_on : MethodName := ⟨RX11, "on", "()Z"⟩
def kc_163 : List (List (Nat × Instr × Nat)) := [[(0, .aload_n 0, 1), (1, .getfield 26, 3), (4, .aload_n 0, 1), (5, .getfield 10, 3), (8, .invokevirtual 315, 3), (11, .istore_n 1, 1), (12, .iload_n 1, 1), (13, .ifCond .eq 25, 3)], [(16, .aload_n 0, 1), (17, .getfield 26, 3), (20, .aload_n 0, 1), (21, .getfield 10, 3), (24, .invokevirtual 319, 3), (27, .aload_n 0, 1), (28, .getfield 33, 3), (31, .iconst 0, 1)], [(32, .putfield 110, 3), (35, .goto 9, 3), (38, .aload_n 0, 1), (39, .iconst 5, 1), (40, .invokevirtual 81, 3), (43, .pop, 1), (44, .aload_n 0, 1), (45, .getfield 10, 3)], [(48, .iconst 0, 1), (49, .putfield 78, 3), (52, .iload_n 1, 1), (53, .ireturn, 1)]]
def kp_163 : List (Nat × Nat × Nat × Int) := [(10, 1, 11, 0), (26, 1, 11, 2), (33, 1, 11, 3), (78, 1, 8, 1), (81, 2, 165, 1), (110, 1, 2, 2), (315, 2, 74, 1)]
def kr_163 : xR := (kc_163, kp_163, (2, 2, 0, 0, 11), yX11_on, cX11_on, (some .boolean))
abbrev cX11_status : ByteArray := prog_1_method_30_code
def yX11_status : MethodName := ⟨RX11, "status", "(I)I"⟩
def kc_164 : List (List (Nat × Instr × Nat)) := [[(0, .iload_n 1, 1), (1, .ifCond .lt 21, 3), (4, .iload_n 1, 1), (5, .aload_n 0, 1), (6, .getfield 58, 3), (9, .arraylength, 1), (10, .if_icmp .ge 12, 3), (13, .aload_n 0, 1), (14, .getfield 58, 3)], [(17, .iload_n 1, 1), (18, .iaload, 1), (19, .goto 4, 3), (22, .iconst (-1), 1), (23, .ireturn, 1)]]
def kp_164 : List (Nat × Nat × Nat × Int) := [(58, 1, 11, 7)]
def kr_164 : xR := (kc_164, kp_164, (2, 1, 0, 0, 11), yX11_status, cX11_status, (some .int))
abbrev cX11_refuse : ByteArray := prog_1_method_31_code
def yX11_refuse : MethodName := ⟨RX11, "refuse", "(I)I"⟩
def kc_165 : List (List (Nat × Instr × Nat)) := [[(0, .iload_n 1, 1), (1, .ifCond .lt 22, 3), (4, .iload_n 1, 1), (5, .aload_n 0, 1), (6, .getfield 58, 3), (9, .arraylength, 1), (10, .if_icmp .ge 13, 3), (13, .aload_n 0, 1), (14, .getfield 58, 3)], [(17, .iload_n 1, 1), (18, .dup2, 1), (19, .iaload, 1), (20, .iconst 1, 1), (21, .iadd, 1), (22, .iastore, 1), (23, .iconst (-1), 1), (24, .ireturn, 1)]]
def kp_165 : List (Nat × Nat × Nat × Int) := [(58, 1, 11, 7)]
def kr_165 : xR := (kc_165, kp_165, (2, 1, 0, 0, 11), yX11_refuse, cX11_refuse, (some .int))
abbrev cX11_canTravel : ByteArray := prog_1_method_33_code
def yX11_canTravel : MethodName := ⟨RX11, "canTravel", "(II)Z"⟩
def kc_167 : List (List (Nat × Instr × Nat)) := [[(0, .aload_n 0, 1), (1, .getfield 26, 3), (4, .getfield 120, 3), (7, .iload_n 1, 1), (8, .invokevirtual 164, 3), (11, .ifCond .eq 32, 3), (14, .aload_n 0, 1), (15, .getfield 26, 3)], [(18, .getfield 120, 3), (21, .iload_n 2, 1), (22, .invokevirtual 153, 3), (25, .ifCond .eq 18, 3), (28, .aload_n 0, 1), (29, .getfield 26, 3)], [(32, .iload_n 1, 1), (33, .invokevirtual 197, 3), (36, .ifCond .ne 7, 3), (39, .iconst 1, 1), (40, .goto 4, 3), (43, .iconst 0, 1), (44, .ireturn, 1)]]
def kp_167 : List (Nat × Nat × Nat × Int) := [(26, 1, 11, 2), (120, 1, 5, 0), (153, 2, 106, 1), (164, 2, 107, 1)]
def kr_167 : xR := (kc_167, kp_167, (3, 2, 0, 0, 11), yX11_canTravel, cX11_canTravel, (some .boolean))
abbrev cX12_init : ByteArray := prog_14_method_1_code
def yX12_init : MethodName := ⟨RX12, "<init>", "()V"⟩
def kc_171 : List (List (Nat × Instr × Nat)) := [[(0, .aload_n 0, 1), (1, .invokespecial 1, 3), (4, .aload_n 0, 1), (5, .sipush 1800, 3), (8, .newarray .int, 2), (10, .putfield 7, 3), (13, .aload_n 0, 1), (14, .iconst 0, 1), (15, .putfield 13, 3)], [(18, .aload_n 0, 1), (19, .iconst 0, 1), (20, .putfield 17, 3), (23, .aload_n 0, 1), (24, .iconst 0, 1), (25, .putfield 20, 3), (28, .aload_n 0, 1), (29, .iconst 0, 1), (30, .putfield 23, 3)], [(33, .aload_n 0, 1), (34, .iconst 0, 1), (35, .putfield 26, 3), (38, .aload_n 0, 1), (39, .iconst 0, 1), (40, .putfield 29, 3), (43, .aload_n 0, 1), (44, .lconst 0, 1), (45, .putfield 32, 3)], [(48, .aload_n 0, 1), (49, .iconst 0, 1), (50, .putfield 36, 3), (53, .aload_n 0, 1), (54, .iconst 0, 1), (55, .putfield 39, 3), (58, .aload_n 0, 1), (59, .iconst (-1), 1), (60, .putfield 42, 3), (63, .aload_n 0, 1)], [(64, .iconst 0, 1), (65, .putfield 45, 3), (68, .aload_n 0, 1), (69, .iconst (-1), 1), (70, .putfield 48, 3), (73, .aload_n 0, 1), (74, .iconst (-1), 1), (75, .putfield 51, 3), (78, .aload_n 0, 1), (79, .iconst 0, 1)], [(80, .putfield 54, 3), (83, .aload_n 0, 1), (84, .iconst 2, 1), (85, .newarray .int, 2), (87, .putfield 57, 3), (90, .aload_n 0, 1), (91, .bipush 16, 2), (93, .newarray .int, 2), (95, .putfield 60, 3)], [(98, .aload_n 0, 1), (99, .bipush 16, 2), (101, .newarray .int, 2), (103, .putfield 63, 3), (106, .aload_n 0, 1), (107, .sipush 128, 3), (110, .newarray .int, 2)], [(112, .putfield 66, 3), (115, .aload_n 0, 1), (116, .iconst 2, 1), (117, .newarray .int, 2), (119, .putfield 69, 3), (122, .aload_n 0, 1), (123, .bipush 16, 2), (125, .newarray .int, 2), (127, .putfield 72, 3)], [(130, .aload_n 0, 1), (131, .bipush 16, 2), (133, .newarray .int, 2), (135, .putfield 75, 3), (138, .aload_n 0, 1), (139, .bipush 16, 2), (141, .newarray .int, 2), (143, .putfield 78, 3)], [(146, .aload_n 0, 1), (147, .bipush 16, 2), (149, .newarray .int, 2), (151, .putfield 81, 3), (154, .aload_n 0, 1), (155, .bipush 16, 2), (157, .newarray .int, 2), (159, .putfield 84, 3)], [(162, .aload_n 0, 1), (163, .iconst 2, 1), (164, .newarray .int, 2), (166, .putfield 87, 3), (169, .aload_n 0, 1), (170, .iconst 2, 1), (171, .newarray .int, 2), (173, .putfield 90, 3)], [(176, .aload_n 0, 1), (177, .iconst 2, 1), (178, .newarray .int, 2), (180, .putfield 93, 3), (183, .aload_n 0, 1), (184, .iconst 2, 1), (185, .newarray .int, 2), (187, .putfield 96, 3), (190, .aload_n 0, 1), (191, .iconst 2, 1)], [(192, .newarray .int, 2), (194, .putfield 99, 3), (197, .aload_n 0, 1), (198, .iconst 2, 1), (199, .newarray .int, 2), (201, .putfield 102, 3), (204, .aload_n 0, 1), (205, .sipush 3200, 3)], [(208, .newarray .int, 2), (210, .putfield 105, 3), (213, .aload_n 0, 1), (214, .sipush 3200, 3), (217, .newarray .int, 2), (219, .putfield 108, 3), (222, .aload_n 0, 1), (223, .bipush 16, 2)], [(225, .newarray .long, 2), (227, .putfield 111, 3), (230, .aload_n 0, 1), (231, .bipush 16, 2), (233, .newarray .long, 2), (235, .putfield 115, 3), (238, .aload_n 0, 1), (239, .iconst 0, 1)], [(240, .putfield 118, 3), (243, .aload_n 0, 1), (244, .iconst 1, 1), (245, .putfield 121, 3), (248, .aload_n 0, 1), (249, .bipush 20, 2), (251, .newarray .int, 2), (253, .putfield 124, 3)], [(256, .aload_n 0, 1), (257, .bipush 20, 2), (259, .newarray .int, 2), (261, .putfield 127, 3), (264, .aload_n 0, 1), (265, .bipush 20, 2), (267, .newarray .boolean, 2), (269, .putfield 130, 3)], [(272, .aload_n 0, 1), (273, .bipush 20, 2), (275, .newarray .int, 2), (277, .putfield 134, 3), (280, .aload_n 0, 1), (281, .bipush 20, 2), (283, .newarray .int, 2), (285, .putfield 137, 3)], [(288, .aload_n 0, 1), (289, .iconst 0, 1), (290, .putfield 140, 3), (293, .aload_n 0, 1), (294, .iconst 0, 1), (295, .putfield 143, 3), (298, .aload_n 0, 1), (299, .sipush 500, 3), (302, .newarray .int, 2)], [(304, .putfield 146, 3), (307, .aload_n 0, 1), (308, .iconst 0, 1), (309, .putfield 149, 3), (312, .aload_n 0, 1), (313, .iconst 0, 1), (314, .putfield 152, 3), (317, .aload_n 0, 1), (318, .bipush 6, 2)], [(320, .newarray .int, 2), (322, .putfield 156, 3), (325, .aload_n 0, 1), (326, .sipush 176, 3), (329, .newarray .int, 2), (331, .putfield 159, 3), (334, .aload_n 0, 1), (335, .sipush 176, 3)], [(338, .newarray .int, 2), (340, .putfield 162, 3), (343, .aload_n 0, 1), (344, .sipush 176, 3), (347, .newarray .int, 2), (349, .putfield 165, 3)], [(352, .aload_n 0, 1), (353, .sipush 176, 3), (356, .newarray .int, 2), (358, .putfield 168, 3), (361, .aload_n 0, 1), (362, .sipush 176, 3), (365, .newarray .int, 2), (367, .putfield 171, 3)], [(370, .aload_n 0, 1), (371, .bipush 22, 2), (373, .newarray .int, 2), (375, .putfield 174, 3), (378, .aload_n 0, 1), (379, .sipush 880, 3), (382, .newarray .int, 2)], [(384, .putfield 177, 3), (387, .aload_n 0, 1), (388, .sipush 880, 3), (391, .newarray .int, 2), (393, .putfield 180, 3), (396, .aload_n 0, 1), (397, .sipush 880, 3)], [(400, .newarray .int, 2), (402, .putfield 183, 3), (405, .aload_n 0, 1), (406, .sipush 880, 3), (409, .newarray .int, 2), (411, .putfield 186, 3), (414, .aload_n 0, 1), (415, .iconst 0, 1)], [(416, .putfield 189, 3), (419, .aload_n 0, 1), (420, .iconst 0, 1), (421, .putfield 192, 3), (424, .aload_n 0, 1), (425, .lconst 1, 1), (426, .putfield 195, 3), (429, .aload_n 0, 1), (430, .sipush 500, 3)], [(433, .newarray .long, 2), (435, .putfield 198, 3), (438, .aload_n 0, 1), (439, .iconst 0, 1), (440, .putfield 201, 3), (443, .aload_n 0, 1), (444, .iconst 0, 1), (445, .putfield 204, 3)], [(448, .aload_n 0, 1), (449, .iconst 0, 1), (450, .putfield 207, 3), (453, .aload_n 0, 1), (454, .bipush 64, 2), (456, .newarray .int, 2), (458, .putfield 210, 3), (461, .aload_n 0, 1), (462, .bipush 64, 2)], [(464, .newarray .int, 2), (466, .putfield 213, 3), (469, .aload_n 0, 1), (470, .bipush 8, 2), (472, .newarray .int, 2), (474, .putfield 216, 3), (477, .aload_n 0, 1), (478, .iconst 0, 1), (479, .putfield 219, 3)], [(482, .aload_n 0, 1), (483, .bipush 12, 2), (485, .newarray .int, 2), (487, .putfield 222, 3), (490, .aload_n 0, 1), (491, .iconst 0, 1), (492, .putfield 225, 3), (495, .aload_n 0, 1)], [(496, .bipush 64, 2), (498, .newarray .int, 2), (500, .putfield 228, 3), (503, .aload_n 0, 1), (504, .iconst 0, 1), (505, .putfield 231, 3), (508, .aload_n 0, 1), (509, .bipush 8, 2), (511, .newarray .int, 2)], [(513, .putfield 234, 3), (516, .aload_n 0, 1), (517, .bipush 8, 2), (519, .newarray .int, 2), (521, .putfield 237, 3), (524, .aload_n 0, 1), (525, .sipush 600, 3)], [(528, .newarray .int, 2), (530, .putfield 240, 3), (533, .aload_n 0, 1), (534, .sipush 600, 3), (537, .newarray .int, 2), (539, .putfield 243, 3), (542, .aload_n 0, 1), (543, .bipush 8, 2)], [(545, .newarray .int, 2), (547, .putfield 246, 3), (550, .aload_n 0, 1), (551, .bipush 80, 2), (553, .newarray .int, 2), (555, .putfield 249, 3), (558, .aload_n 0, 1), (559, .iconst 0, 1)], [(560, .putfield 252, 3), (563, .aload_n 0, 1), (564, .getfield 87, 3), (567, .iconst 0, 1), (568, .iconst (-1), 1), (569, .iastore, 1), (570, .aload_n 0, 1), (571, .getfield 93, 3), (574, .iconst 0, 1), (575, .iconst (-1), 1)], [(576, .iastore, 1), (577, .aload_n 0, 1), (578, .getfield 102, 3), (581, .iconst 0, 1), (582, .iconst (-1), 1), (583, .iastore, 1), (584, .iconst 0, 1), (585, .istore_n 1, 1), (586, .iload_n 1, 1), (587, .bipush 16, 2), (589, .if_icmp .ge 16, 3)], [(592, .aload_n 0, 1), (593, .getfield 84, 3), (596, .iload_n 1, 1), (597, .iconst (-1), 1), (598, .iastore, 1), (599, .iinc 1 1, 3), (602, .goto (-16), 3), (605, .return_, 1)]]
def kp_171 : List (Nat × Nat × Nat × Int) := [(1, 5, 0, 0), (7, 1, 12, 0), (13, 1, 12, 1), (17, 1, 12, 2), (20, 1, 12, 3), (23, 1, 12, 4), (26, 1, 12, 5), (29, 1, 12, 6), (32, 1, 12, 7), (36, 1, 12, 8), (39, 1, 12, 9), (42, 1, 12, 10), (45, 1, 12, 11), (48, 1, 12, 12), (51, 1, 12, 13), (54, 1, 12, 14), (57, 1, 12, 15), (60, 1, 12, 16), (63, 1, 12, 17), (66, 1, 12, 18), (69, 1, 12, 19), (72, 1, 12, 20), (75, 1, 12, 21), (78, 1, 12, 22), (81, 1, 12, 23), (84, 1, 12, 24), (87, 1, 12, 25), (90, 1, 12, 26), (93, 1, 12, 27), (96, 1, 12, 28), (99, 1, 12, 29), (102, 1, 12, 30), (105, 1, 12, 31), (108, 1, 12, 32), (111, 1, 12, 33), (115, 1, 12, 34), (118, 1, 12, 35), (121, 1, 12, 36), (124, 1, 12, 37), (127, 1, 12, 38), (130, 1, 12, 39), (134, 1, 12, 40), (137, 1, 12, 41), (140, 1, 12, 42), (143, 1, 12, 43), (146, 1, 12, 44), (149, 1, 12, 45), (152, 1, 12, 46), (156, 1, 12, 47), (159, 1, 12, 48), (162, 1, 12, 49), (165, 1, 12, 50), (168, 1, 12, 51), (171, 1, 12, 52), (174, 1, 12, 53), (177, 1, 12, 54), (180, 1, 12, 55), (183, 1, 12, 56), (186, 1, 12, 57), (189, 1, 12, 58), (192, 1, 12, 59), (195, 1, 12, 60), (198, 1, 12, 61), (201, 1, 12, 62), (204, 1, 12, 63), (207, 1, 12, 64), (210, 1, 12, 65), (213, 1, 12, 66), (216, 1, 12, 67), (219, 1, 12, 68), (222, 1, 12, 69), (225, 1, 12, 70), (228, 1, 12, 71), (231, 1, 12, 72), (234, 1, 12, 73), (237, 1, 12, 74), (240, 1, 12, 75), (243, 1, 12, 76), (246, 1, 12, 77), (249, 1, 12, 78), (252, 1, 12, 79)]
def kr_171 : xR := (kc_171, kp_171, (2, 0, 50, 15532, 12), yX12_init, cX12_init, none)
abbrev cX12_is : ByteArray := prog_14_method_2_code
def yX12_is : MethodName := ⟨RX12, "is", "(III)Z"⟩
def kc_172 : List (List (Nat × Instr × Nat)) := [[(0, .iload_n 0, 1), (1, .iload_n 1, 1), (2, .if_icmp .lt 12, 3), (5, .iload_n 0, 1), (6, .iload_n 2, 1), (7, .if_icmp .gt 7, 3), (10, .iconst 1, 1), (11, .goto 4, 3), (14, .iconst 0, 1), (15, .ireturn, 1)]]
def kp_172 : List (Nat × Nat × Nat × Int) := []
def kr_172 : xR := (kc_172, kp_172, (3, 2, 0, 0, 12), yX12_is, cX12_is, (some .boolean))
abbrev cX12_put : ByteArray := prog_14_method_3_code
def yX12_put : MethodName := ⟨RX12, "put", "(I)V"⟩
def kc_173 : List (List (Nat × Instr × Nat)) := [[(0, .bipush 24, 2), (2, .istore_n 2, 1), (3, .iload_n 2, 1), (4, .ifCond .lt 35, 3), (7, .aload_n 0, 1), (8, .getfield 7, 3), (11, .aload_n 0, 1), (12, .getfield 13, 3), (15, .iload_n 1, 1)], [(16, .iload_n 2, 1), (17, .ishr, 1), (18, .sipush 255, 3), (21, .iand, 1), (22, .iastore, 1), (23, .aload_n 0, 1), (24, .dup, 1), (25, .getfield 13, 3), (28, .iconst 1, 1), (29, .iadd, 1), (30, .putfield 13, 3)], [(33, .iinc 2 (-8), 3), (36, .goto (-33), 3), (39, .return_, 1)]]
def kp_173 : List (Nat × Nat × Nat × Int) := [(7, 1, 12, 0), (13, 1, 12, 1)]
def kr_173 : xR := (kc_173, kp_173, (3, 0, 0, 0, 12), yX12_put, cX12_put, none)
abbrev cX12_feed : ByteArray := prog_14_method_4_code
def yX12_feed : MethodName := ⟨RX12, "feed", "(IIIII)I"⟩
def kc_174 : List (List (Nat × Instr × Nat)) := [[(0, .aload_n 0, 1), (1, .getfield 13, 3), (4, .bipush 20, 2), (6, .iadd, 1), (7, .sipush 1600, 3), (10, .if_icmp .le 9, 3), (13, .aload_n 0, 1), (14, .iconst 0, 1), (15, .invokevirtual 255, 3)], [(18, .ireturn, 1), (19, .aload_n 0, 1), (20, .iload_n 1, 1), (21, .invokevirtual 259, 3), (24, .aload_n 0, 1), (25, .iload_n 2, 1), (26, .invokevirtual 259, 3), (29, .aload_n 0, 1), (30, .iload_n 3, 1), (31, .invokevirtual 259, 3)], [(34, .aload_n 0, 1), (35, .iload 4, 2), (37, .invokevirtual 259, 3), (40, .aload_n 0, 1), (41, .iload 5, 2), (43, .invokevirtual 259, 3), (46, .aload_n 0, 1), (47, .getfield 13, 3)], [(50, .ireturn, 1)]]
def kp_174 : List (Nat × Nat × Nat × Int) := [(13, 1, 12, 1), (255, 2, 218, 1), (259, 2, 173, 1)]
def kr_174 : xR := (kc_174, kp_174, (6, 1, 0, 0, 12), yX12_feed, cX12_feed, (some .int))
abbrev cX12_end : ByteArray := prog_14_method_5_code
def yX12_end : MethodName := ⟨RX12, "end", "(I)Z"⟩
def kc_175 : List (List (Nat × Instr × Nat)) := [[(0, .iload_n 1, 1), (1, .ifCond .lt 11, 3), (4, .iload_n 1, 1), (5, .aload_n 0, 1), (6, .getfield 13, 3), (9, .if_icmp .le 17, 3), (12, .aload_n 0, 1), (13, .iconst 0, 1), (14, .invokevirtual 255, 3)], [(17, .ifCond .lt 7, 3), (20, .iconst 1, 1), (21, .goto 4, 3), (24, .iconst 0, 1), (25, .ireturn, 1), (26, .aload_n 0, 1), (27, .iload_n 1, 1), (28, .putfield 13, 3), (31, .iconst 1, 1)], [(32, .ireturn, 1)]]
def kp_175 : List (Nat × Nat × Nat × Int) := [(13, 1, 12, 1), (255, 2, 218, 1)]
def kr_175 : xR := (kc_175, kp_175, (2, 2, 0, 0, 12), yX12_end, cX12_end, (some .boolean))
abbrev cX12_ahead : ByteArray := prog_14_method_10_code
def yX12_ahead : MethodName := ⟨RX12, "ahead", "()V"⟩
def kc_180 : List (List (Nat × Instr × Nat)) := [[(0, .aload_n 0, 1), (1, .getfield 26, 3), (4, .istore_n 1, 1), (5, .iload_n 1, 1), (6, .aload_n 0, 1), (7, .getfield 17, 3), (10, .if_icmp .ge 31, 3), (13, .aload_n 0, 1), (14, .getfield 7, 3)], [(17, .iload_n 1, 1), (18, .iaload, 1), (19, .bipush 32, 2), (21, .if_icmp .eq 14, 3), (24, .aload_n 0, 1), (25, .getfield 7, 3), (28, .iload_n 1, 1), (29, .iaload, 1), (30, .bipush 10, 2)], [(32, .if_icmp .ne 9, 3), (35, .iinc 1 1, 3), (38, .goto (-33), 3), (41, .aload_n 0, 1), (42, .iload_n 1, 1), (43, .putfield 23, 3), (46, .aload_n 0, 1), (47, .iload_n 1, 1)], [(48, .putfield 26, 3), (51, .aload_n 0, 1), (52, .iconst 0, 1), (53, .putfield 20, 3), (56, .aload_n 0, 1), (57, .iconst (-1), 1), (58, .putfield 51, 3), (61, .iload_n 1, 1), (62, .aload_n 0, 1), (63, .getfield 17, 3)], [(66, .if_icmp .lt 4, 3), (69, .return_, 1), (70, .aload_n 0, 1), (71, .getfield 7, 3), (74, .iload_n 1, 1), (75, .iaload, 1), (76, .invokestatic 267, 3), (79, .istore_n 2, 1)], [(80, .aload_n 0, 1), (81, .getfield 7, 3), (84, .iload_n 1, 1), (85, .iaload, 1), (86, .invokestatic 271, 3), (89, .istore_n 3, 1), (90, .iload_n 2, 1), (91, .ifCond .ne 7, 3), (94, .iload_n 3, 1), (95, .ifCond .eq 40, 3)], [(98, .iload_n 1, 1), (99, .ifCond .le 36, 3), (102, .aload_n 0, 1), (103, .getfield 7, 3), (106, .iload_n 1, 1), (107, .iconst 1, 1), (108, .isub, 1), (109, .iaload, 1), (110, .invokestatic 267, 3)], [(113, .ifCond .ne 17, 3), (116, .aload_n 0, 1), (117, .getfield 7, 3), (120, .iload_n 1, 1), (121, .iconst 1, 1), (122, .isub, 1), (123, .iaload, 1), (124, .invokestatic 271, 3), (127, .ifCond .eq 8, 3)], [(130, .aload_n 0, 1), (131, .iload_n 1, 1), (132, .putfield 51, 3), (135, .aload_n 0, 1), (136, .iconst 0, 1), (137, .putfield 29, 3), (140, .aload_n 0, 1), (141, .lconst 0, 1), (142, .putfield 32, 3)], [(145, .aload_n 0, 1), (146, .iconst 3, 1), (147, .putfield 20, 3), (150, .aload_n 0, 1), (151, .iload_n 1, 1), (152, .iconst 1, 1), (153, .iadd, 1), (154, .putfield 26, 3), (157, .iload_n 2, 1), (158, .ifCond .ne 18, 3)], [(161, .iload_n 3, 1), (162, .ifCond .ne 14, 3), (165, .aload_n 0, 1), (166, .aload_n 0, 1), (167, .getfield 7, 3), (170, .iload_n 1, 1), (171, .iaload, 1), (172, .putfield 29, 3), (175, .return_, 1)], [(176, .aload_n 0, 1), (177, .iload_n 2, 1), (178, .ifCond .eq 7, 3), (181, .iconst 1, 1), (182, .goto 4, 3), (185, .iconst 2, 1), (186, .putfield 20, 3), (189, .iload_n 2, 1), (190, .ifCond .eq 8, 3)], [(193, .bipush 6, 2), (195, .goto 4, 3), (198, .iconst 4, 1), (199, .istore 4, 2), (201, .iconst 0, 1), (202, .istore 5, 2), (204, .iload_n 1, 1), (205, .aload_n 0, 1), (206, .getfield 17, 3)], [(209, .if_icmp .ge 142, 3), (212, .iload_n 2, 1), (213, .ifCond .eq 18, 3), (216, .aload_n 0, 1), (217, .getfield 7, 3), (220, .iload_n 1, 1), (221, .iaload, 1), (222, .invokestatic 267, 3)], [(225, .ifCond .eq 126, 3), (228, .goto 15, 3), (231, .aload_n 0, 1), (232, .getfield 7, 3), (235, .iload_n 1, 1), (236, .iaload, 1), (237, .invokestatic 271, 3)], [(240, .ifCond .eq 111, 3), (243, .iload 5, 2), (245, .iload 4, 2), (247, .if_icmp .ne 16, 3), (250, .aload_n 0, 1), (251, .getfield 51, 3), (254, .iconst (-1), 1), (255, .if_icmp .ne 8, 3)], [(258, .aload_n 0, 1), (259, .iload_n 1, 1), (260, .putfield 51, 3), (263, .iload 5, 2), (265, .bipush 8, 2), (267, .if_icmp .ge 26, 3), (270, .iload_n 2, 1), (271, .ifCond .eq 22, 3)], [(274, .aload_n 0, 1), (275, .aload_n 0, 1), (276, .getfield 32, 3), (279, .bipush 8, 2), (281, .lshl, 1), (282, .aload_n 0, 1), (283, .getfield 7, 3), (286, .iload_n 1, 1), (287, .iaload, 1)], [(288, .i2l, 1), (289, .lor, 1), (290, .putfield 32, 3), (293, .iload 5, 2), (295, .bipush 8, 2), (297, .if_icmp .ne 13, 3), (300, .aload_n 0, 1), (301, .aload_n 0, 1), (302, .getfield 7, 3)], [(305, .iload_n 1, 1), (306, .iaload, 1), (307, .putfield 36, 3), (310, .iload 5, 2), (312, .iload 4, 2), (314, .if_icmp .ge 28, 3), (317, .iload_n 3, 1), (318, .ifCond .eq 24, 3)], [(321, .aload_n 0, 1), (322, .bipush 10, 2), (324, .aload_n 0, 1), (325, .getfield 29, 3), (328, .imul, 1), (329, .aload_n 0, 1), (330, .getfield 7, 3), (333, .iload_n 1, 1), (334, .iaload, 1), (335, .iadd, 1)], [(336, .bipush 48, 2), (338, .isub, 1), (339, .putfield 29, 3), (342, .iinc 5 1, 3), (345, .iinc 1 1, 3), (348, .goto (-144), 3), (351, .aload_n 0, 1)], [(352, .iload_n 1, 1), (353, .putfield 26, 3), (356, .iload_n 2, 1), (357, .ifCond .eq 54, 3), (360, .iload 5, 2), (362, .bipush 9, 2), (364, .if_icmp .ne 47, 3), (367, .aload_n 0, 1)], [(368, .getfield 32, 3), (371, .ldc2_w 274, 3), (374, .lcmp, 1), (375, .ifCond .ne 36, 3), (378, .aload_n 0, 1), (379, .getfield 36, 3), (382, .bipush 114, 2)], [(384, .if_icmp .ne 27, 3), (387, .aload_n 0, 1), (388, .lconst 1, 1), (389, .putfield 32, 3), (392, .aload_n 0, 1), (393, .getfield 51, 3), (396, .aload_n 0, 1), (397, .getfield 23, 3)], [(400, .iload 4, 2), (402, .iadd, 1), (403, .if_icmp .ne 8, 3), (406, .aload_n 0, 1), (407, .iconst (-1), 1), (408, .putfield 51, 3), (411, .iload_n 2, 1), (412, .ifCond .eq 40, 3), (415, .iload 5, 2)], [(417, .bipush 8, 2), (419, .if_icmp .gt 33, 3), (422, .aload_n 0, 1), (423, .getfield 51, 3), (426, .aload_n 0, 1), (427, .getfield 23, 3), (430, .iload 4, 2)], [(432, .iadd, 1), (433, .if_icmp .ne 19, 3), (436, .aload_n 0, 1), (437, .aload_n 0, 1), (438, .getfield 32, 3), (441, .invokevirtual 276, 3), (444, .ifCond .eq 8, 3), (447, .aload_n 0, 1)], [(448, .iconst (-1), 1), (449, .putfield 51, 3), (452, .return_, 1)]]
def kp_180 : List (Nat × Nat × Nat × Int) := [(7, 1, 12, 0), (17, 1, 12, 2), (20, 1, 12, 3), (23, 1, 12, 4), (26, 1, 12, 5), (29, 1, 12, 6), (32, 1, 12, 7), (36, 1, 12, 8), (51, 1, 12, 13), (274, 8, 0, 7161130709559440485)]
def kr_180 : xR := (kc_180, kp_180, (6, 0, 0, 0, 12), yX12_ahead, cX12_ahead, none)
abbrev cX12_manyOf : ByteArray := prog_14_method_15_code
def yX12_manyOf : MethodName := ⟨RX12, "manyOf", "(II)I"⟩
def kc_185 : List (List (Nat × Instr × Nat)) := [[(0, .iload_n 2, 1), (1, .ifCond .ne 12, 3), (4, .aload_n 0, 1), (5, .getfield 57, 3), (8, .iload_n 1, 1), (9, .iaload, 1), (10, .goto 9, 3), (13, .aload_n 0, 1), (14, .getfield 69, 3)], [(17, .iload_n 1, 1), (18, .iaload, 1), (19, .ireturn, 1)]]
def kp_185 : List (Nat × Nat × Nat × Int) := [(57, 1, 12, 15), (69, 1, 12, 19)]
def kr_185 : xR := (kc_185, kp_185, (3, 1, 0, 0, 12), yX12_manyOf, cX12_manyOf, (some .int))
abbrev cX12_town : ByteArray := prog_14_method_46_code
def yX12_town : MethodName := ⟨RX12, "town", "()I"⟩
def kc_216 : List (List (Nat × Instr × Nat)) := [[(0, .aload_n 0, 1), (1, .aload_n 0, 1), (2, .getfield 13, 3), (5, .putfield 17, 3), (8, .aload_n 0, 1), (9, .iconst 0, 1), (10, .putfield 13, 3), (13, .aload_n 0, 1), (14, .iconst 0, 1), (15, .putfield 26, 3)], [(18, .aload_n 0, 1), (19, .iconst 0, 1), (20, .putfield 39, 3), (23, .aload_n 0, 1), (24, .iconst (-1), 1), (25, .putfield 42, 3), (28, .aload_n 0, 1), (29, .iconst 1, 1), (30, .aload_n 0, 1), (31, .getfield 54, 3)], [(34, .isub, 1), (35, .putfield 121, 3), (38, .aload_n 0, 1), (39, .getfield 57, 3), (42, .aload_n 0, 1), (43, .getfield 121, 3), (46, .iconst 0, 1), (47, .iastore, 1)], [(48, .aload_n 0, 1), (49, .getfield 69, 3), (52, .aload_n 0, 1), (53, .getfield 121, 3), (56, .iconst 0, 1), (57, .iastore, 1), (58, .aload_n 0, 1), (59, .getfield 99, 3), (62, .aload_n 0, 1), (63, .getfield 121, 3)], [(66, .iconst 0, 1), (67, .iastore, 1), (68, .aload_n 0, 1), (69, .getfield 102, 3), (72, .aload_n 0, 1), (73, .getfield 121, 3), (76, .iconst (-1), 1), (77, .iastore, 1), (78, .aload_n 0, 1), (79, .getfield 87, 3)], [(82, .aload_n 0, 1), (83, .getfield 121, 3), (86, .iconst (-1), 1), (87, .iastore, 1), (88, .aload_n 0, 1), (89, .getfield 93, 3), (92, .aload_n 0, 1), (93, .getfield 121, 3)], [(96, .iconst (-1), 1), (97, .iastore, 1), (98, .aload_n 0, 1), (99, .iconst 0, 1), (100, .putfield 118, 3), (103, .iconst 0, 1), (104, .istore_n 1, 1), (105, .aload_n 0, 1), (106, .invokevirtual 286, 3), (109, .aload_n 0, 1), (110, .getfield 39, 3)], [(113, .ifCond .ne 25, 3), (116, .aload_n 0, 1), (117, .getfield 20, 3), (120, .ifCond .eq 18, 3), (123, .aload_n 0, 1), (124, .invokevirtual 440, 3), (127, .iinc 1 1, 3)], [(130, .aload_n 0, 1), (131, .iload_n 1, 1), (132, .invokevirtual 443, 3), (135, .goto (-26), 3), (138, .aload_n 0, 1), (139, .aload_n 0, 1), (140, .getfield 39, 3), (143, .putfield 45, 3)], [(146, .aload_n 0, 1), (147, .aload_n 0, 1), (148, .getfield 42, 3), (151, .putfield 48, 3), (154, .aload_n 0, 1), (155, .getfield 39, 3), (158, .ifCond .le 9, 3)], [(161, .aload_n 0, 1), (162, .iconst 1, 1), (163, .invokevirtual 255, 3), (166, .ireturn, 1), (167, .aload_n 0, 1), (168, .aload_n 0, 1), (169, .getfield 121, 3), (172, .putfield 54, 3), (175, .aload_n 0, 1)], [(176, .invokevirtual 446, 3), (179, .iload_n 1, 1), (180, .ireturn, 1)]]
def kp_216 : List (Nat × Nat × Nat × Int) := [(13, 1, 12, 1), (17, 1, 12, 2), (20, 1, 12, 3), (26, 1, 12, 5), (39, 1, 12, 9), (42, 1, 12, 10), (45, 1, 12, 11), (48, 1, 12, 12), (54, 1, 12, 14), (57, 1, 12, 15), (69, 1, 12, 19), (87, 1, 12, 25), (93, 1, 12, 27), (99, 1, 12, 29), (102, 1, 12, 30), (118, 1, 12, 35), (121, 1, 12, 36), (255, 2, 218, 1), (286, 2, 180, 0), (446, 2, 225, 0)]
def kr_216 : xR := (kc_216, kp_216, (2, 1, 0, 0, 12), yX12_town, cX12_town, (some .int))
abbrev cX12_fault : ByteArray := prog_14_method_47_code
def yX12_fault : MethodName := ⟨RX12, "fault", "(I)I"⟩
def kc_217 : List (List (Nat × Instr × Nat)) := [[(0, .iload_n 1, 1), (1, .ifCond .ne 10, 3), (4, .aload_n 0, 1), (5, .getfield 45, 3), (8, .goto 16, 3), (11, .iload_n 1, 1), (12, .iconst 1, 1), (13, .if_icmp .ne 10, 3)], [(16, .aload_n 0, 1), (17, .getfield 48, 3), (20, .goto 4, 3), (23, .iconst (-1), 1), (24, .ireturn, 1)]]
def kp_217 : List (Nat × Nat × Nat × Int) := [(45, 1, 12, 11), (48, 1, 12, 12)]
def kr_217 : xR := (kc_217, kp_217, (2, 1, 0, 0, 12), yX12_fault, cX12_fault, (some .int))
abbrev cX12_refuses : ByteArray := prog_14_method_48_code
def yX12_refuses : MethodName := ⟨RX12, "refuses", "(I)I"⟩
def kc_218 : List (List (Nat × Instr × Nat)) := [[(0, .aload_n 0, 1), (1, .getfield 156, 3), (4, .iload_n 1, 1), (5, .dup2, 1), (6, .iaload, 1), (7, .iconst 1, 1), (8, .iadd, 1), (9, .iastore, 1), (10, .iconst (-1), 1), (11, .ireturn, 1)]]
def kp_218 : List (Nat × Nat × Nat × Int) := [(156, 1, 12, 47)]
def kr_218 : xR := (kc_218, kp_218, (2, 1, 0, 0, 12), yX12_refuses, cX12_refuses, (some .int))
abbrev cX12_status : ByteArray := prog_14_method_49_code
def yX12_status : MethodName := ⟨RX12, "status", "(I)I"⟩
def kc_219 : List (List (Nat × Instr × Nat)) := [[(0, .iload_n 1, 1), (1, .iconst 0, 1), (2, .iconst 5, 1), (3, .invokestatic 345, 3), (6, .ifCond .eq 12, 3), (9, .aload_n 0, 1), (10, .getfield 156, 3), (13, .iload_n 1, 1), (14, .iaload, 1), (15, .goto 4, 3)], [(18, .iconst (-1), 1), (19, .ireturn, 1)]]
def kp_219 : List (Nat × Nat × Nat × Int) := [(156, 1, 12, 47), (345, 6, 172, 3)]
def kr_219 : xR := (kc_219, kp_219, (2, 1, 0, 0, 12), yX12_status, cX12_status, (some .int))
abbrev cX12_isRoom : ByteArray := prog_14_method_50_code
def yX12_isRoom : MethodName := ⟨RX12, "isRoom", "(I)Z"⟩
def kc_220 : List (List (Nat × Instr × Nat)) := [[(0, .iload_n 1, 1), (1, .ifCond .lt 20, 3), (4, .iload_n 1, 1), (5, .aload_n 0, 1), (6, .getfield 57, 3), (9, .aload_n 0, 1), (10, .getfield 54, 3), (13, .iaload, 1), (14, .if_icmp .ge 7, 3)], [(17, .iconst 1, 1), (18, .goto 4, 3), (21, .iconst 0, 1), (22, .ireturn, 1)]]
def kp_220 : List (Nat × Nat × Nat × Int) := [(54, 1, 12, 14), (57, 1, 12, 15)]
def kr_220 : xR := (kc_220, kp_220, (2, 2, 0, 0, 12), yX12_isRoom, cX12_isRoom, (some .boolean))
abbrev cX12_isPerson : ByteArray := prog_14_method_51_code
def yX12_isPerson : MethodName := ⟨RX12, "isPerson", "(I)Z"⟩
def kc_221 : List (List (Nat × Instr × Nat)) := [[(0, .iload_n 1, 1), (1, .ifCond .lt 20, 3), (4, .iload_n 1, 1), (5, .aload_n 0, 1), (6, .getfield 69, 3), (9, .aload_n 0, 1), (10, .getfield 54, 3), (13, .iaload, 1), (14, .if_icmp .ge 7, 3)], [(17, .iconst 1, 1), (18, .goto 4, 3), (21, .iconst 0, 1), (22, .ireturn, 1)]]
def kp_221 : List (Nat × Nat × Nat × Int) := [(54, 1, 12, 14), (69, 1, 12, 19)]
def kr_221 : xR := (kc_221, kp_221, (2, 2, 0, 0, 12), yX12_isPerson, cX12_isPerson, (some .boolean))
abbrev cX12_copies : ByteArray := prog_14_method_54_code
def yX12_copies : MethodName := ⟨RX12, "copies", "(II)V"⟩
def kc_224 : List (List (Nat × Instr × Nat)) := [[(0, .iconst 0, 1), (1, .istore_n 3, 1), (2, .iload_n 3, 1), (3, .bipush 8, 2), (5, .if_icmp .ge 95, 3), (8, .bipush 8, 2), (10, .iload_n 1, 1), (11, .imul, 1), (12, .iload_n 3, 1), (13, .iadd, 1), (14, .istore 4, 2)], [(16, .bipush 8, 2), (18, .iload_n 2, 1), (19, .imul, 1), (20, .iload_n 3, 1), (21, .iadd, 1), (22, .istore 5, 2), (24, .aload_n 0, 1), (25, .getfield 159, 3), (28, .iload 4, 2), (30, .aload_n 0, 1), (31, .getfield 159, 3)], [(34, .iload 5, 2), (36, .iaload, 1), (37, .iastore, 1), (38, .aload_n 0, 1), (39, .getfield 162, 3), (42, .iload 4, 2), (44, .aload_n 0, 1), (45, .getfield 162, 3)], [(48, .iload 5, 2), (50, .iaload, 1), (51, .iastore, 1), (52, .aload_n 0, 1), (53, .getfield 165, 3), (56, .iload 4, 2), (58, .aload_n 0, 1), (59, .getfield 165, 3), (62, .iload 5, 2)], [(64, .iaload, 1), (65, .iastore, 1), (66, .aload_n 0, 1), (67, .getfield 168, 3), (70, .iload 4, 2), (72, .aload_n 0, 1), (73, .getfield 168, 3), (76, .iload 5, 2), (78, .iaload, 1), (79, .iastore, 1)], [(80, .aload_n 0, 1), (81, .getfield 171, 3), (84, .iload 4, 2), (86, .aload_n 0, 1), (87, .getfield 171, 3), (90, .iload 5, 2), (92, .iaload, 1), (93, .iastore, 1), (94, .iinc 3 1, 3)], [(97, .goto (-95), 3), (100, .aload_n 0, 1), (101, .getfield 174, 3), (104, .iload_n 1, 1), (105, .aload_n 0, 1), (106, .getfield 174, 3), (109, .iload_n 2, 1), (110, .iaload, 1), (111, .iastore, 1)], [(112, .iconst 0, 1), (113, .istore_n 3, 1), (114, .iload_n 3, 1), (115, .aload_n 0, 1), (116, .getfield 174, 3), (119, .iload_n 2, 1), (120, .iaload, 1), (121, .if_icmp .ge 97, 3), (124, .aload_n 0, 1), (125, .getfield 177, 3)], [(128, .bipush 40, 2), (130, .iload_n 1, 1), (131, .imul, 1), (132, .iload_n 3, 1), (133, .iadd, 1), (134, .aload_n 0, 1), (135, .getfield 177, 3), (138, .bipush 40, 2), (140, .iload_n 2, 1), (141, .imul, 1), (142, .iload_n 3, 1), (143, .iadd, 1)], [(144, .iaload, 1), (145, .iastore, 1), (146, .aload_n 0, 1), (147, .getfield 180, 3), (150, .bipush 40, 2), (152, .iload_n 1, 1), (153, .imul, 1), (154, .iload_n 3, 1), (155, .iadd, 1), (156, .aload_n 0, 1), (157, .getfield 180, 3)], [(160, .bipush 40, 2), (162, .iload_n 2, 1), (163, .imul, 1), (164, .iload_n 3, 1), (165, .iadd, 1), (166, .iaload, 1), (167, .iastore, 1), (168, .aload_n 0, 1), (169, .getfield 183, 3), (172, .bipush 40, 2), (174, .iload_n 1, 1), (175, .imul, 1)], [(176, .iload_n 3, 1), (177, .iadd, 1), (178, .aload_n 0, 1), (179, .getfield 183, 3), (182, .bipush 40, 2), (184, .iload_n 2, 1), (185, .imul, 1), (186, .iload_n 3, 1), (187, .iadd, 1), (188, .iaload, 1), (189, .iastore, 1), (190, .aload_n 0, 1), (191, .getfield 186, 3)], [(194, .bipush 40, 2), (196, .iload_n 1, 1), (197, .imul, 1), (198, .iload_n 3, 1), (199, .iadd, 1), (200, .aload_n 0, 1), (201, .getfield 186, 3), (204, .bipush 40, 2), (206, .iload_n 2, 1), (207, .imul, 1)], [(208, .iload_n 3, 1), (209, .iadd, 1), (210, .iaload, 1), (211, .iastore, 1), (212, .iinc 3 1, 3), (215, .goto (-101), 3), (218, .return_, 1)]]
def kp_224 : List (Nat × Nat × Nat × Int) := [(159, 1, 12, 48), (162, 1, 12, 49), (165, 1, 12, 50), (168, 1, 12, 51), (171, 1, 12, 52), (174, 1, 12, 53), (177, 1, 12, 54), (180, 1, 12, 55), (183, 1, 12, 56), (186, 1, 12, 57)]
def kr_224 : xR := (kc_224, kp_224, (6, 0, 0, 0, 12), yX12_copies, cX12_copies, none)
abbrev cX12_begin : ByteArray := prog_14_method_55_code
def yX12_begin : MethodName := ⟨RX12, "begin", "()V"⟩
def kc_225 : List (List (Nat × Instr × Nat)) := [[(0, .iconst 0, 1), (1, .istore_n 1, 1), (2, .iload_n 1, 1), (3, .bipush 8, 2), (5, .if_icmp .ge 70, 3), (8, .aload_n 0, 1), (9, .getfield 159, 3), (12, .iload_n 1, 1), (13, .aload_n 0, 1), (14, .getfield 81, 3)], [(17, .bipush 8, 2), (19, .aload_n 0, 1), (20, .getfield 54, 3), (23, .imul, 1), (24, .iload_n 1, 1), (25, .iadd, 1), (26, .iaload, 1), (27, .iastore, 1), (28, .aload_n 0, 1), (29, .getfield 162, 3)], [(32, .iload_n 1, 1), (33, .aload_n 0, 1), (34, .getfield 81, 3), (37, .bipush 8, 2), (39, .aload_n 0, 1), (40, .getfield 54, 3), (43, .imul, 1), (44, .iload_n 1, 1), (45, .iadd, 1), (46, .iaload, 1), (47, .iastore, 1)], [(48, .aload_n 0, 1), (49, .getfield 165, 3), (52, .iload_n 1, 1), (53, .iconst 0, 1), (54, .iastore, 1), (55, .aload_n 0, 1), (56, .getfield 168, 3), (59, .iload_n 1, 1), (60, .iconst 0, 1), (61, .iastore, 1), (62, .aload_n 0, 1), (63, .getfield 171, 3)], [(66, .iload_n 1, 1), (67, .iconst 0, 1), (68, .iastore, 1), (69, .iinc 1 1, 3), (72, .goto (-70), 3), (75, .aload_n 0, 1), (76, .getfield 174, 3), (79, .iconst 0, 1)], [(80, .iconst 0, 1), (81, .iastore, 1), (82, .aload_n 0, 1), (83, .iconst 0, 1), (84, .putfield 192, 3), (87, .aload_n 0, 1), (88, .iconst 0, 1), (89, .putfield 225, 3), (92, .aload_n 0, 1), (93, .iconst 0, 1), (94, .putfield 219, 3)], [(97, .return_, 1)]]
def kp_225 : List (Nat × Nat × Nat × Int) := [(54, 1, 12, 14), (81, 1, 12, 23), (159, 1, 12, 48), (162, 1, 12, 49), (165, 1, 12, 50), (168, 1, 12, 51), (171, 1, 12, 52), (174, 1, 12, 53), (192, 1, 12, 59), (219, 1, 12, 68), (225, 1, 12, 70)]
def kr_225 : xR := (kc_225, kp_225, (2, 0, 0, 0, 12), yX12_begin, cX12_begin, none)
abbrev cX12_ring : ByteArray := prog_14_method_56_code
def yX12_ring : MethodName := ⟨RX12, "ring", "(I)I"⟩
def kc_226 : List (List (Nat × Instr × Nat)) := [[(0, .iconst 2, 1), (1, .aload_n 0, 1), (2, .getfield 189, 3), (5, .iload_n 1, 1), (6, .iadd, 1), (7, .bipush 20, 2), (9, .irem, 1), (10, .iadd, 1), (11, .ireturn, 1)]]
def kp_226 : List (Nat × Nat × Nat × Int) := [(189, 1, 12, 58)]
def kr_226 : xR := (kc_226, kp_226, (2, 1, 0, 0, 12), yX12_ring, cX12_ring, (some .int))
abbrev cX12_keeps : ByteArray := prog_14_method_57_code
def yX12_keeps : MethodName := ⟨RX12, "keeps", "()V"⟩
def kc_227 : List (List (Nat × Instr × Nat)) := [[(0, .aload_n 0, 1), (1, .getfield 192, 3), (4, .bipush 20, 2), (6, .if_icmp .ne 26, 3), (9, .aload_n 0, 1), (10, .aload_n 0, 1), (11, .getfield 189, 3), (14, .iconst 1, 1), (15, .iadd, 1)], [(16, .bipush 20, 2), (18, .irem, 1), (19, .putfield 189, 3), (22, .aload_n 0, 1), (23, .dup, 1), (24, .getfield 192, 3), (27, .iconst 1, 1), (28, .isub, 1), (29, .putfield 192, 3)], [(32, .aload_n 0, 1), (33, .aload_n 0, 1), (34, .aload_n 0, 1), (35, .getfield 192, 3), (38, .invokevirtual 449, 3), (41, .iconst 0, 1), (42, .invokevirtual 452, 3), (45, .aload_n 0, 1), (46, .dup, 1), (47, .getfield 192, 3)], [(50, .iconst 1, 1), (51, .iadd, 1), (52, .putfield 192, 3), (55, .return_, 1)]]
def kp_227 : List (Nat × Nat × Nat × Int) := [(189, 1, 12, 58), (192, 1, 12, 59), (449, 2, 226, 1), (452, 2, 224, 2)]
def kr_227 : xR := (kc_227, kp_227, (1, 0, 0, 0, 12), yX12_keeps, cX12_keeps, none)
abbrev cX12_undo : ByteArray := prog_14_method_58_code
def yX12_undo : MethodName := ⟨RX12, "undo", "()Z"⟩
def kc_228 : List (List (Nat × Instr × Nat)) := [[(0, .aload_n 0, 1), (1, .getfield 192, 3), (4, .ifCond .ne 17, 3), (7, .aload_n 0, 1), (8, .iconst 4, 1), (9, .invokevirtual 255, 3), (12, .ifCond .lt 7, 3), (15, .iconst 1, 1)], [(16, .goto 4, 3), (19, .iconst 0, 1), (20, .ireturn, 1), (21, .aload_n 0, 1), (22, .dup, 1), (23, .getfield 192, 3), (26, .iconst 1, 1), (27, .isub, 1), (28, .putfield 192, 3), (31, .aload_n 0, 1)], [(32, .iconst 0, 1), (33, .aload_n 0, 1), (34, .aload_n 0, 1), (35, .getfield 192, 3), (38, .invokevirtual 449, 3), (41, .invokevirtual 452, 3), (44, .iconst 1, 1), (45, .ireturn, 1)]]
def kp_228 : List (Nat × Nat × Nat × Int) := [(192, 1, 12, 59), (255, 2, 218, 1), (449, 2, 226, 1), (452, 2, 224, 2)]
def kr_228 : xR := (kc_228, kp_228, (1, 2, 0, 0, 12), yX12_undo, cX12_undo, (some .boolean))
abbrev cX12_has : ByteArray := prog_14_method_76_code
def yX12_has : MethodName := ⟨RX12, "has", "(I)I"⟩
def kc_246 : List (List (Nat × Instr × Nat)) := [[(0, .iconst 0, 1), (1, .istore_n 2, 1), (2, .iload_n 1, 1), (3, .tableswitch 262 0 10 #[57, 67, 77, 87, 97, 136, 168, 212, 244, 251, 256], 57)], [], [], [(60, .aload_n 0, 1), (61, .getfield 57, 3)], [(64, .aload_n 0, 1), (65, .getfield 54, 3), (68, .iaload, 1), (69, .ireturn, 1), (70, .aload_n 0, 1), (71, .getfield 69, 3), (74, .aload_n 0, 1), (75, .getfield 54, 3), (78, .iaload, 1), (79, .ireturn, 1)], [(80, .aload_n 0, 1), (81, .getfield 99, 3), (84, .aload_n 0, 1), (85, .getfield 54, 3), (88, .iaload, 1), (89, .ireturn, 1), (90, .aload_n 0, 1), (91, .getfield 102, 3), (94, .aload_n 0, 1), (95, .getfield 54, 3)], [(98, .iaload, 1), (99, .ireturn, 1), (100, .iconst 0, 1), (101, .istore_n 3, 1), (102, .iload_n 3, 1), (103, .aload_n 0, 1), (104, .getfield 69, 3), (107, .aload_n 0, 1), (108, .getfield 54, 3), (111, .iaload, 1)], [(112, .if_icmp .ge 25, 3), (115, .iload_n 2, 1), (116, .aload_n 0, 1), (117, .iload_n 3, 1), (118, .invokevirtual 503, 3), (121, .ifCond .eq 7, 3), (124, .iconst 1, 1), (125, .goto 4, 3)], [(128, .iconst 0, 1), (129, .iadd, 1), (130, .istore_n 2, 1), (131, .iinc 3 1, 3), (134, .goto (-32), 3), (137, .iload_n 2, 1), (138, .ireturn, 1), (139, .iconst 0, 1), (140, .istore_n 3, 1), (141, .iload_n 3, 1), (142, .aload_n 0, 1), (143, .getfield 69, 3)], [(146, .aload_n 0, 1), (147, .getfield 54, 3), (150, .iaload, 1), (151, .if_icmp .ge 18, 3), (154, .iload_n 2, 1), (155, .aload_n 0, 1), (156, .getfield 165, 3), (159, .iload_n 3, 1)], [(160, .iaload, 1), (161, .iadd, 1), (162, .istore_n 2, 1), (163, .iinc 3 1, 3), (166, .goto (-25), 3), (169, .iload_n 2, 1), (170, .ireturn, 1), (171, .iconst 0, 1), (172, .istore_n 3, 1), (173, .iload_n 3, 1), (174, .aload_n 0, 1), (175, .getfield 69, 3)], [(178, .aload_n 0, 1), (179, .getfield 54, 3), (182, .iaload, 1), (183, .if_icmp .ge 30, 3), (186, .aload_n 0, 1), (187, .getfield 168, 3), (190, .iload_n 3, 1), (191, .iaload, 1)], [(192, .iload_n 2, 1), (193, .if_icmp .le 12, 3), (196, .aload_n 0, 1), (197, .getfield 168, 3), (200, .iload_n 3, 1), (201, .iaload, 1), (202, .goto 4, 3), (205, .iload_n 2, 1), (206, .istore_n 2, 1), (207, .iinc 3 1, 3)], [(210, .goto (-37), 3), (213, .iload_n 2, 1), (214, .ireturn, 1), (215, .iconst 0, 1), (216, .istore_n 3, 1), (217, .iload_n 3, 1), (218, .aload_n 0, 1), (219, .getfield 69, 3), (222, .aload_n 0, 1), (223, .getfield 54, 3)], [(226, .iaload, 1), (227, .if_icmp .ge 18, 3), (230, .iload_n 2, 1), (231, .aload_n 0, 1), (232, .getfield 171, 3), (235, .iload_n 3, 1), (236, .iaload, 1), (237, .iadd, 1), (238, .istore_n 2, 1), (239, .iinc 3 1, 3)], [(242, .goto (-25), 3), (245, .iload_n 2, 1), (246, .ireturn, 1), (247, .aload_n 0, 1), (248, .getfield 174, 3), (251, .iconst 0, 1), (252, .iaload, 1), (253, .ireturn, 1), (254, .aload_n 0, 1), (255, .getfield 192, 3)], [(258, .ireturn, 1), (259, .aload_n 0, 1), (260, .getfield 195, 3), (263, .l2i, 1), (264, .ireturn, 1), (265, .iconst (-1), 1), (266, .ireturn, 1)]]
def kp_246 : List (Nat × Nat × Nat × Int) := [(54, 1, 12, 14), (57, 1, 12, 15), (69, 1, 12, 19), (99, 1, 12, 29), (102, 1, 12, 30), (165, 1, 12, 50), (168, 1, 12, 51), (171, 1, 12, 52), (174, 1, 12, 53), (192, 1, 12, 59), (195, 1, 12, 60)]
def kr_246 : xR := (kc_246, kp_246, (4, 1, 0, 0, 12), yX12_has, cX12_has, (some .int))
abbrev cX12_letter : ByteArray := prog_14_method_77_code
def yX12_letter : MethodName := ⟨RX12, "letter", "(III)I"⟩
def kc_247 : List (List (Nat × Instr × Nat)) := [[(0, .iload_n 1, 1), (1, .iconst 0, 1), (2, .iconst 1, 1), (3, .invokestatic 345, 3), (6, .ifCond .eq 31, 3), (9, .iload_n 2, 1), (10, .iconst 0, 1), (11, .aload_n 0, 1), (12, .aload_n 0, 1), (13, .getfield 54, 3)], [(16, .iload_n 1, 1), (17, .invokevirtual 337, 3), (20, .iconst 1, 1), (21, .isub, 1), (22, .invokestatic 345, 3), (25, .ifCond .eq 12, 3), (28, .iload_n 3, 1), (29, .iconst 0, 1), (30, .iconst 5, 1), (31, .invokestatic 345, 3)], [(34, .ifCond .ne 5, 3), (37, .iconst (-1), 1), (38, .ireturn, 1), (39, .aload_n 0, 1), (40, .aload_n 0, 1), (41, .getfield 54, 3), (44, .iload_n 1, 1), (45, .iload_n 2, 1), (46, .invokevirtual 341, 3)], [(49, .lstore 4, 2), (51, .iconst 0, 1), (52, .istore 6, 2), (54, .lload 4, 2), (56, .lstore 7, 2), (58, .lload 7, 2), (60, .lconst 0, 1), (61, .lcmp, 1), (62, .ifCond .le 16, 3)], [(65, .iinc 6 1, 3), (68, .lload 7, 2), (70, .bipush 8, 2), (72, .lshr, 1), (73, .lstore 7, 2), (75, .goto (-17), 3), (78, .iload_n 3, 1), (79, .iload 6, 2)], [(81, .if_icmp .lt 7, 3), (84, .iconst 0, 1), (85, .goto 25, 3), (88, .lload 4, 2), (90, .bipush 8, 2), (92, .iload 6, 2), (94, .iconst 1, 1), (95, .isub, 1)], [(96, .iload_n 3, 1), (97, .isub, 1), (98, .imul, 1), (99, .lshr, 1), (100, .ldc2_w 506, 3), (103, .land, 1), (104, .l2i, 1), (105, .bipush 97, 2), (107, .isub, 1), (108, .iconst 1, 1), (109, .iadd, 1), (110, .ireturn, 1)]]
def kp_247 : List (Nat × Nat × Nat × Int) := [(54, 1, 12, 14), (337, 2, 185, 2), (345, 6, 172, 3), (506, 8, 0, 255)]
def kr_247 : xR := (kc_247, kp_247, (9, 1, 0, 0, 12), yX12_letter, cX12_letter, (some .int))
abbrev cX12_room : ByteArray := prog_14_method_78_code
def yX12_room : MethodName := ⟨RX12, "room", "(II)I"⟩
def kc_248 : List (List (Nat × Instr × Nat)) := [[(0, .aload_n 0, 1), (1, .iload_n 1, 1), (2, .invokevirtual 508, 3), (5, .ifCond .ne 5, 3), (8, .iconst (-1), 1), (9, .ireturn, 1), (10, .iconst 0, 1), (11, .istore_n 3, 1), (12, .iload_n 2, 1), (13, .tableswitch 226 0 5 #[39, 54, 69, 76, 123, 170], 39)], [], [], [(52, .aload_n 0, 1), (53, .getfield 60, 3), (56, .bipush 8, 2), (58, .aload_n 0, 1), (59, .getfield 54, 3), (62, .imul, 1), (63, .iload_n 1, 1)], [(64, .iadd, 1), (65, .iaload, 1), (66, .ireturn, 1), (67, .aload_n 0, 1), (68, .getfield 63, 3), (71, .bipush 8, 2), (73, .aload_n 0, 1), (74, .getfield 54, 3), (77, .imul, 1), (78, .iload_n 1, 1), (79, .iadd, 1)], [(80, .iaload, 1), (81, .ireturn, 1), (82, .aload_n 0, 1), (83, .iload_n 1, 1), (84, .iconst (-1), 1), (85, .invokevirtual 497, 3), (88, .ireturn, 1), (89, .iconst 0, 1), (90, .istore 4, 2), (92, .iload 4, 2), (94, .aload_n 0, 1), (95, .getfield 69, 3)], [(98, .aload_n 0, 1), (99, .getfield 54, 3), (102, .iaload, 1), (103, .if_icmp .ge 31, 3), (106, .iload_n 3, 1), (107, .aload_n 0, 1), (108, .getfield 159, 3), (111, .iload 4, 2)], [(113, .iaload, 1), (114, .iload_n 1, 1), (115, .if_icmp .ne 10, 3), (118, .iconst 1, 1), (119, .iload 4, 2), (121, .ishl, 1), (122, .goto 4, 3), (125, .iconst 0, 1), (126, .ior, 1), (127, .istore_n 3, 1)], [(128, .iinc 4 1, 3), (131, .goto (-39), 3), (134, .iload_n 3, 1), (135, .ireturn, 1), (136, .iconst 0, 1), (137, .istore 4, 2), (139, .iload 4, 2), (141, .aload_n 0, 1), (142, .getfield 69, 3)], [(145, .aload_n 0, 1), (146, .getfield 54, 3), (149, .iaload, 1), (150, .if_icmp .ge 31, 3), (153, .iload_n 3, 1), (154, .aload_n 0, 1), (155, .getfield 162, 3), (158, .iload 4, 2)], [(160, .iaload, 1), (161, .iload_n 1, 1), (162, .if_icmp .ne 10, 3), (165, .iconst 1, 1), (166, .iload 4, 2), (168, .ishl, 1), (169, .goto 4, 3), (172, .iconst 0, 1), (173, .ior, 1), (174, .istore_n 3, 1), (175, .iinc 4 1, 3)], [(178, .goto (-39), 3), (181, .iload_n 3, 1), (182, .ireturn, 1), (183, .iconst 0, 1), (184, .istore 4, 2), (186, .iload 4, 2), (188, .aload_n 0, 1), (189, .getfield 69, 3)], [(192, .aload_n 0, 1), (193, .getfield 54, 3), (196, .iaload, 1), (197, .if_icmp .ge 40, 3), (200, .iload_n 3, 1), (201, .aload_n 0, 1), (202, .getfield 159, 3), (205, .iload 4, 2), (207, .iaload, 1)], [(208, .iload_n 1, 1), (209, .if_icmp .ne 19, 3), (212, .aload_n 0, 1), (213, .iload 4, 2), (215, .invokevirtual 503, 3), (218, .ifCond .eq 10, 3), (221, .iconst 1, 1), (222, .iload 4, 2)], [(224, .ishl, 1), (225, .goto 4, 3), (228, .iconst 0, 1), (229, .ior, 1), (230, .istore_n 3, 1), (231, .iinc 4 1, 3), (234, .goto (-48), 3), (237, .iload_n 3, 1), (238, .ireturn, 1), (239, .iconst (-1), 1)], [(240, .ireturn, 1)]]
def kp_248 : List (Nat × Nat × Nat × Int) := [(54, 1, 12, 14), (60, 1, 12, 16), (63, 1, 12, 17), (69, 1, 12, 19), (159, 1, 12, 48), (162, 1, 12, 49), (508, 2, 220, 1)]
def kr_248 : xR := (kc_248, kp_248, (5, 1, 0, 0, 12), yX12_room, cX12_room, (some .int))
abbrev cX12_way : ByteArray := prog_14_method_79_code
def yX12_way : MethodName := ⟨RX12, "way", "(II)I"⟩
def kc_249 : List (List (Nat × Instr × Nat)) := [[(0, .aload_n 0, 1), (1, .iload_n 1, 1), (2, .invokevirtual 508, 3), (5, .ifCond .eq 29, 3), (8, .aload_n 0, 1), (9, .iload_n 2, 1), (10, .invokevirtual 508, 3), (13, .ifCond .eq 21, 3)], [(16, .aload_n 0, 1), (17, .iload_n 1, 1), (18, .iload_n 2, 1), (19, .invokevirtual 511, 3), (22, .ifCond .le 12, 3), (25, .aload_n 0, 1), (26, .iload_n 1, 1), (27, .iload_n 2, 1), (28, .invokevirtual 511, 3), (31, .goto 4, 3)], [(34, .iconst (-1), 1), (35, .ireturn, 1)]]
def kp_249 : List (Nat × Nat × Nat × Int) := [(508, 2, 220, 1)]
def kr_249 : xR := (kc_249, kp_249, (3, 1, 0, 0, 12), yX12_way, cX12_way, (some .int))
abbrev cX12_person : ByteArray := prog_14_method_80_code
def yX12_person : MethodName := ⟨RX12, "person", "(II)I"⟩
def kc_250 : List (List (Nat × Instr × Nat)) := [[(0, .aload_n 0, 1), (1, .iload_n 1, 1), (2, .invokevirtual 514, 3), (5, .ifCond .ne 5, 3), (8, .iconst (-1), 1), (9, .ireturn, 1), (10, .iload_n 2, 1), (11, .tableswitch 154 0 10 #[57, 64, 71, 78, 92, 99, 106, 112, 127, 142, 148], 57)], [], [], [], [(68, .aload_n 0, 1), (69, .getfield 159, 3), (72, .iload_n 1, 1), (73, .iaload, 1), (74, .ireturn, 1), (75, .aload_n 0, 1), (76, .getfield 162, 3), (79, .iload_n 1, 1)], [(80, .iaload, 1), (81, .ireturn, 1), (82, .aload_n 0, 1), (83, .getfield 165, 3), (86, .iload_n 1, 1), (87, .iaload, 1), (88, .ireturn, 1), (89, .aload_n 0, 1), (90, .iload_n 1, 1), (91, .invokevirtual 503, 3), (94, .ifCond .eq 7, 3)], [(97, .iconst 1, 1), (98, .goto 4, 3), (101, .iconst 0, 1), (102, .ireturn, 1), (103, .aload_n 0, 1), (104, .getfield 168, 3), (107, .iload_n 1, 1), (108, .iaload, 1), (109, .ireturn, 1), (110, .aload_n 0, 1), (111, .getfield 171, 3)], [(114, .iload_n 1, 1), (115, .iaload, 1), (116, .ireturn, 1), (117, .aload_n 0, 1), (118, .iload_n 1, 1), (119, .invokevirtual 487, 3), (122, .ireturn, 1), (123, .aload_n 0, 1), (124, .getfield 72, 3), (127, .bipush 8, 2)], [(129, .aload_n 0, 1), (130, .getfield 54, 3), (133, .imul, 1), (134, .iload_n 1, 1), (135, .iadd, 1), (136, .iaload, 1), (137, .ireturn, 1), (138, .aload_n 0, 1), (139, .getfield 75, 3), (142, .bipush 8, 2)], [(144, .aload_n 0, 1), (145, .getfield 54, 3), (148, .imul, 1), (149, .iload_n 1, 1), (150, .iadd, 1), (151, .iaload, 1), (152, .ireturn, 1), (153, .aload_n 0, 1), (154, .iload_n 1, 1), (155, .invokevirtual 484, 3), (158, .ireturn, 1), (159, .aload_n 0, 1)], [(160, .iload_n 1, 1), (161, .invokevirtual 490, 3), (164, .ireturn, 1), (165, .iconst (-1), 1), (166, .ireturn, 1)]]
def kp_250 : List (Nat × Nat × Nat × Int) := [(54, 1, 12, 14), (72, 1, 12, 20), (75, 1, 12, 21), (159, 1, 12, 48), (162, 1, 12, 49), (165, 1, 12, 50), (168, 1, 12, 51), (171, 1, 12, 52), (514, 2, 221, 1)]
def kr_250 : xR := (kc_250, kp_250, (3, 1, 0, 0, 12), yX12_person, cX12_person, (some .int))
abbrev cX12_fits : ByteArray := prog_14_method_81_code
def yX12_fits : MethodName := ⟨RX12, "fits", "(II)I"⟩
def kc_251 : List (List (Nat × Instr × Nat)) := [[(0, .aload_n 0, 1), (1, .iload_n 1, 1), (2, .invokevirtual 514, 3), (5, .ifCond .eq 21, 3), (8, .aload_n 0, 1), (9, .iload_n 2, 1), (10, .invokevirtual 508, 3), (13, .ifCond .eq 13, 3)], [(16, .aload_n 0, 1), (17, .getfield 162, 3), (20, .iload_n 1, 1), (21, .iaload, 1), (22, .iload_n 2, 1), (23, .if_icmp .ne 7, 3), (26, .iconst (-1), 1), (27, .goto 17, 3), (30, .aload_n 0, 1), (31, .iload_n 1, 1)], [(32, .iload_n 2, 1), (33, .invokevirtual 517, 3), (36, .ifCond .eq 7, 3), (39, .iconst 1, 1), (40, .goto 4, 3), (43, .iconst 0, 1), (44, .ireturn, 1)]]
def kp_251 : List (Nat × Nat × Nat × Int) := [(162, 1, 12, 49), (508, 2, 220, 1), (514, 2, 221, 1)]
def kr_251 : xR := (kc_251, kp_251, (3, 1, 0, 0, 12), yX12_fits, cX12_fits, (some .int))
abbrev cX12_canGo : ByteArray := prog_14_method_83_code
def yX12_canGo : MethodName := ⟨RX12, "canGo", "(III)Z"⟩
def kc_253 : List (List (Nat × Instr × Nat)) := [[(0, .aload_n 0, 1), (1, .iload_n 1, 1), (2, .invokevirtual 514, 3), (5, .ifCond .eq 39, 3), (8, .aload_n 0, 1), (9, .iload_n 2, 1), (10, .invokevirtual 508, 3), (13, .ifCond .eq 31, 3)], [(16, .aload_n 0, 1), (17, .aload_n 0, 1), (18, .getfield 159, 3), (21, .iload_n 1, 1), (22, .iaload, 1), (23, .iload_n 2, 1), (24, .invokevirtual 511, 3), (27, .ifCond .le 17, 3), (30, .aload_n 0, 1), (31, .iload_n 1, 1)], [(32, .iload_n 2, 1), (33, .iload_n 3, 1), (34, .invokevirtual 520, 3), (37, .ifCond .eq 7, 3), (40, .iconst 1, 1), (41, .goto 4, 3), (44, .iconst 0, 1), (45, .ireturn, 1)]]
def kp_253 : List (Nat × Nat × Nat × Int) := [(159, 1, 12, 48), (508, 2, 220, 1), (514, 2, 221, 1)]
def kr_253 : xR := (kc_253, kp_253, (4, 2, 0, 0, 12), yX12_canGo, cX12_canGo, (some .boolean))
abbrev cX12_takes : ByteArray := prog_14_method_85_code
def yX12_takes : MethodName := ⟨RX12, "takes", "(III)I"⟩
def kc_255 : List (List (Nat × Instr × Nat)) := [[(0, .aload_n 0, 1), (1, .iload_n 1, 1), (2, .iload_n 2, 1), (3, .iload_n 3, 1), (4, .invokevirtual 527, 3), (7, .ifCond .eq 13, 3), (10, .aload_n 0, 1), (11, .iload_n 1, 1), (12, .iload_n 2, 1), (13, .iload_n 3, 1), (14, .invokevirtual 530, 3)], [(17, .goto 4, 3), (20, .iconst (-1), 1), (21, .ireturn, 1)]]
def kp_255 : List (Nat × Nat × Nat × Int) := [(527, 2, 253, 3)]
def kr_255 : xR := (kc_255, kp_255, (4, 1, 0, 0, 12), yX12_takes, cX12_takes, (some .int))
abbrev cX12_go : ByteArray := prog_14_method_90_code
def yX12_go : MethodName := ⟨RX12, "go", "(III)I"⟩
def kc_260 : List (List (Nat × Instr × Nat)) := [[(0, .aload_n 0, 1), (1, .iload_n 1, 1), (2, .iload_n 2, 1), (3, .iload_n 3, 1), (4, .invokevirtual 527, 3), (7, .ifCond .ne 9, 3), (10, .aload_n 0, 1), (11, .iconst 2, 1), (12, .invokevirtual 255, 3), (15, .ireturn, 1)], [(16, .aload_n 0, 1), (17, .invokevirtual 552, 3), (20, .aload_n 0, 1), (21, .iload_n 1, 1), (22, .iload_n 2, 1), (23, .iload_n 3, 1), (24, .invokevirtual 555, 3), (27, .aload_n 0, 1), (28, .getfield 168, 3), (31, .iload_n 1, 1)], [(32, .iaload, 1), (33, .ireturn, 1)]]
def kp_260 : List (Nat × Nat × Nat × Int) := [(168, 1, 12, 51), (255, 2, 218, 1), (527, 2, 253, 3), (552, 2, 227, 0)]
def kr_260 : xR := (kc_260, kp_260, (4, 1, 0, 0, 12), yX12_go, cX12_go, (some .int))
abbrev cX12_stay : ByteArray := prog_14_method_92_code
def yX12_stay : MethodName := ⟨RX12, "stay", "(II)I"⟩
def kc_262 : List (List (Nat × Instr × Nat)) := [[(0, .aload_n 0, 1), (1, .iload_n 1, 1), (2, .invokevirtual 514, 3), (5, .ifCond .eq 14, 3), (8, .iload_n 2, 1), (9, .iconst 1, 1), (10, .sipush 999, 3), (13, .invokestatic 345, 3)], [(16, .ifCond .ne 9, 3), (19, .aload_n 0, 1), (20, .iconst 2, 1), (21, .invokevirtual 255, 3), (24, .ireturn, 1), (25, .aload_n 0, 1), (26, .invokevirtual 552, 3), (29, .aload_n 0, 1), (30, .iload_n 1, 1), (31, .iload_n 2, 1)], [(32, .invokevirtual 562, 3), (35, .aload_n 0, 1), (36, .getfield 171, 3), (39, .iload_n 1, 1), (40, .iaload, 1), (41, .ireturn, 1)]]
def kp_262 : List (Nat × Nat × Nat × Int) := [(171, 1, 12, 52), (255, 2, 218, 1), (345, 6, 172, 3), (514, 2, 221, 1), (552, 2, 227, 0)]
def kr_262 : xR := (kc_262, kp_262, (3, 1, 0, 0, 12), yX12_stay, cX12_stay, (some .int))
abbrev cX12_mend : ByteArray := prog_14_method_93_code
def yX12_mend : MethodName := ⟨RX12, "mend", "(II)Z"⟩
def kc_263 : List (List (Nat × Instr × Nat)) := [[(0, .aload_n 0, 1), (1, .iload_n 1, 1), (2, .invokevirtual 514, 3), (5, .ifCond .eq 74, 3), (8, .aload_n 0, 1), (9, .iload_n 2, 1), (10, .invokevirtual 514, 3), (13, .ifCond .eq 66, 3)], [(16, .aload_n 0, 1), (17, .getfield 102, 3), (20, .aload_n 0, 1), (21, .getfield 54, 3), (24, .iaload, 1), (25, .iconst (-1), 1), (26, .if_icmp .eq 53, 3), (29, .aload_n 0, 1), (30, .getfield 159, 3)], [(33, .iload_n 1, 1), (34, .iaload, 1), (35, .aload_n 0, 1), (36, .getfield 102, 3), (39, .aload_n 0, 1), (40, .getfield 54, 3), (43, .iaload, 1), (44, .if_icmp .ne 35, 3), (47, .aload_n 0, 1)], [(48, .getfield 162, 3), (51, .iload_n 2, 1), (52, .iaload, 1), (53, .aload_n 0, 1), (54, .getfield 102, 3), (57, .aload_n 0, 1), (58, .getfield 54, 3), (61, .iaload, 1), (62, .if_icmp .ne 17, 3)], [(65, .aload_n 0, 1), (66, .getfield 165, 3), (69, .iload_n 2, 1), (70, .iaload, 1), (71, .iconst 1, 1), (72, .if_icmp .ne 7, 3), (75, .iconst 1, 1), (76, .goto 4, 3), (79, .iconst 0, 1)], [(80, .istore_n 3, 1), (81, .iload_n 3, 1), (82, .ifCond .ne 17, 3), (85, .aload_n 0, 1), (86, .iconst 3, 1), (87, .invokevirtual 255, 3), (90, .ifCond .lt 7, 3), (93, .iconst 1, 1), (94, .goto 4, 3)], [(97, .iconst 0, 1), (98, .ireturn, 1), (99, .aload_n 0, 1), (100, .invokevirtual 552, 3), (103, .aload_n 0, 1), (104, .getfield 165, 3), (107, .iload_n 2, 1), (108, .iconst 0, 1), (109, .iastore, 1), (110, .aload_n 0, 1), (111, .iload_n 1, 1)], [(112, .bipush 30, 2), (114, .invokevirtual 542, 3), (117, .iconst 1, 1), (118, .ireturn, 1)]]
def kp_263 : List (Nat × Nat × Nat × Int) := [(54, 1, 12, 14), (102, 1, 12, 30), (159, 1, 12, 48), (162, 1, 12, 49), (165, 1, 12, 50), (255, 2, 218, 1), (514, 2, 221, 1), (552, 2, 227, 0)]
def kr_263 : xR := (kc_263, kp_263, (4, 2, 0, 0, 12), yX12_mend, cX12_mend, (some .boolean))
abbrev cX12_days : ByteArray := prog_14_method_96_code
def yX12_days : MethodName := ⟨RX12, "days", "(I)I"⟩
def kc_266 : List (List (Nat × Instr × Nat)) := [[(0, .iload_n 1, 1), (1, .iconst 1, 1), (2, .bipush 30, 2), (4, .invokestatic 345, 3), (7, .ifCond .ne 9, 3), (10, .aload_n 0, 1), (11, .iconst 3, 1), (12, .invokevirtual 255, 3), (15, .ireturn, 1)], [(16, .aload_n 0, 1), (17, .invokevirtual 552, 3), (20, .iconst 0, 1), (21, .istore_n 2, 1), (22, .iconst 0, 1), (23, .istore_n 3, 1), (24, .iload_n 3, 1), (25, .iload_n 1, 1), (26, .if_icmp .ge 49, 3), (29, .iconst 0, 1), (30, .istore 4, 2)], [(32, .iload 4, 2), (34, .aload_n 0, 1), (35, .getfield 69, 3), (38, .aload_n 0, 1), (39, .getfield 54, 3), (42, .iaload, 1), (43, .if_icmp .ge 26, 3), (46, .iload_n 2, 1), (47, .aload_n 0, 1)], [(48, .iload 4, 2), (50, .invokevirtual 568, 3), (53, .ifCond .eq 7, 3), (56, .iconst 1, 1), (57, .goto 4, 3), (60, .iconst 0, 1), (61, .iadd, 1), (62, .istore_n 2, 1), (63, .iinc 4 1, 3)], [(66, .goto (-34), 3), (69, .iinc 3 1, 3), (72, .goto (-48), 3), (75, .iload_n 2, 1), (76, .ireturn, 1)]]
def kp_266 : List (Nat × Nat × Nat × Int) := [(54, 1, 12, 14), (69, 1, 12, 19), (255, 2, 218, 1), (345, 6, 172, 3), (552, 2, 227, 0)]
def kr_266 : xR := (kc_266, kp_266, (5, 1, 0, 0, 12), yX12_days, cX12_days, (some .int))
abbrev cX12_seed : ByteArray := prog_14_method_97_code
def yX12_seed : MethodName := ⟨RX12, "seed", "(I)Z"⟩
def kc_267 : List (List (Nat × Instr × Nat)) := [[(0, .iload_n 1, 1), (1, .ifCond .ge 17, 3), (4, .aload_n 0, 1), (5, .iconst 5, 1), (6, .invokevirtual 255, 3), (9, .ifCond .lt 7, 3), (12, .iconst 1, 1), (13, .goto 4, 3)], [(16, .iconst 0, 1), (17, .ireturn, 1), (18, .aload_n 0, 1), (19, .iload_n 1, 1), (20, .i2l, 1), (21, .putfield 195, 3), (24, .iconst 1, 1), (25, .ireturn, 1)]]
def kp_267 : List (Nat × Nat × Nat × Int) := [(195, 1, 12, 60), (255, 2, 218, 1)]
def kr_267 : xR := (kc_267, kp_267, (2, 2, 0, 0, 12), yX12_seed, cX12_seed, (some .boolean))
abbrev cX12_kept : ByteArray := prog_14_method_98_code
def yX12_kept : MethodName := ⟨RX12, "kept", "(II)I"⟩
def kc_268 : List (List (Nat × Instr × Nat)) := [[(0, .iload_n 1, 1), (1, .iconst 0, 1), (2, .aload_n 0, 1), (3, .getfield 174, 3), (6, .iconst 0, 1), (7, .iaload, 1), (8, .iconst 1, 1), (9, .isub, 1), (10, .invokestatic 345, 3), (13, .ifCond .eq 12, 3)], [(16, .iload_n 2, 1), (17, .iconst 0, 1), (18, .iconst 3, 1), (19, .invokestatic 345, 3), (22, .ifCond .ne 5, 3), (25, .iconst (-1), 1), (26, .ireturn, 1), (27, .iload_n 2, 1), (28, .ifCond .ne 12, 3), (31, .aload_n 0, 1)], [(32, .getfield 177, 3), (35, .iload_n 1, 1), (36, .iaload, 1), (37, .goto 37, 3), (40, .iload_n 2, 1), (41, .iconst 1, 1), (42, .if_icmp .ne 12, 3), (45, .aload_n 0, 1), (46, .getfield 180, 3)], [(49, .iload_n 1, 1), (50, .iaload, 1), (51, .goto 23, 3), (54, .iload_n 2, 1), (55, .iconst 2, 1), (56, .if_icmp .ne 12, 3), (59, .aload_n 0, 1), (60, .getfield 183, 3), (63, .iload_n 1, 1)], [(64, .iaload, 1), (65, .goto 9, 3), (68, .aload_n 0, 1), (69, .getfield 186, 3), (72, .iload_n 1, 1), (73, .iaload, 1), (74, .ireturn, 1)]]
def kp_268 : List (Nat × Nat × Nat × Int) := [(174, 1, 12, 53), (177, 1, 12, 54), (180, 1, 12, 55), (183, 1, 12, 56), (186, 1, 12, 57), (345, 6, 172, 3)]
def kr_268 : xR := (kc_268, kp_268, (3, 1, 0, 0, 12), yX12_kept, cX12_kept, (some .int))
abbrev cX12_routing : ByteArray := prog_14_method_102_code
def yX12_routing : MethodName := ⟨RX12, "routing", "(IIIIZ)I"⟩
def kc_272 : List (List (Nat × Instr × Nat)) := [[(0, .aload_n 0, 1), (1, .iload_n 2, 1), (2, .invokevirtual 514, 3), (5, .ifCond .eq 27, 3), (8, .aload_n 0, 1), (9, .iload_n 3, 1), (10, .invokevirtual 508, 3), (13, .ifCond .eq 19, 3)], [(16, .aload_n 0, 1), (17, .getfield 165, 3), (20, .iload_n 2, 1), (21, .iaload, 1), (22, .iconst 1, 1), (23, .if_icmp .eq 9, 3), (26, .iload 4, 2), (28, .iconst (-1), 1), (29, .if_icmp .ge 5, 3)], [(32, .iconst (-1), 1), (33, .ireturn, 1), (34, .aload_n 0, 1), (35, .iload_n 1, 1), (36, .iload_n 2, 1), (37, .invokevirtual 572, 3), (40, .aload_n 0, 1), (41, .iload_n 3, 1), (42, .invokevirtual 575, 3), (45, .aload_n 0, 1), (46, .getfield 162, 3)], [(49, .iload_n 2, 1), (50, .iaload, 1), (51, .istore 6, 2), (53, .aload_n 0, 1), (54, .getfield 216, 3), (57, .iload 6, 2), (59, .iaload, 1), (60, .ldc_w 571, 3), (63, .if_icmp .lt 5, 3)], [(66, .iconst (-1), 1), (67, .ireturn, 1), (68, .iload 4, 2), (70, .iconst (-1), 1), (71, .if_icmp .ne 11, 3), (74, .aload_n 0, 1), (75, .getfield 216, 3), (78, .iload 6, 2)], [(80, .iaload, 1), (81, .ireturn, 1), (82, .iconst 0, 1), (83, .istore 7, 2), (85, .iload 6, 2), (87, .iload_n 3, 1), (88, .if_icmp .eq 52, 3), (91, .aload_n 0, 1), (92, .iload 6, 2), (94, .invokevirtual 578, 3)], [(97, .istore 8, 2), (99, .iload 7, 2), (101, .iload 4, 2), (103, .if_icmp .ne 27, 3), (106, .iload 5, 2), (108, .ifCond .eq 19, 3), (111, .aload_n 0, 1)], [(112, .getfield 213, 3), (115, .bipush 8, 2), (117, .iload 6, 2), (119, .imul, 1), (120, .iload 8, 2), (122, .iadd, 1), (123, .iaload, 1), (124, .goto 5, 3), (127, .iload 8, 2)], [(129, .ireturn, 1), (130, .iload 8, 2), (132, .istore 6, 2), (134, .iinc 7 1, 3), (137, .goto (-52), 3), (140, .iconst (-1), 1), (141, .ireturn, 1)]]
def kp_272 : List (Nat × Nat × Nat × Int) := [(162, 1, 12, 49), (165, 1, 12, 50), (213, 1, 12, 66), (216, 1, 12, 67), (508, 2, 220, 1), (514, 2, 221, 1), (571, 7, 0, 100000000)]
def kr_272 : xR := (kc_272, kp_272, (9, 1, 0, 0, 12), yX12_routing, cX12_routing, (some .int))
abbrev cX12_route : ByteArray := prog_14_method_103_code
def yX12_route : MethodName := ⟨RX12, "route", "(IIII)I"⟩
def kc_273 : List (List (Nat × Instr × Nat)) := [[(0, .aload_n 0, 1), (1, .iload_n 1, 1), (2, .invokevirtual 514, 3), (5, .ifCond .eq 16, 3), (8, .aload_n 0, 1), (9, .iload_n 1, 1), (10, .iload_n 2, 1), (11, .iload_n 3, 1), (12, .iload 4, 2), (14, .iconst 0, 1), (15, .invokevirtual 581, 3)], [(18, .goto 4, 3), (21, .iconst (-1), 1), (22, .ireturn, 1)]]
def kp_273 : List (Nat × Nat × Nat × Int) := [(514, 2, 221, 1), (581, 2, 272, 5)]
def kr_273 : xR := (kc_273, kp_273, (5, 1, 0, 0, 12), yX12_route, cX12_route, (some .int))
abbrev cX12_bearer : ByteArray := prog_14_method_104_code
def yX12_bearer : MethodName := ⟨RX12, "bearer", "(III)I"⟩
def kc_274 : List (List (Nat × Instr × Nat)) := [[(0, .aload_n 0, 1), (1, .iconst (-1), 1), (2, .iload_n 1, 1), (3, .iload_n 2, 1), (4, .iload_n 3, 1), (5, .iconst 1, 1), (6, .invokevirtual 581, 3), (9, .ireturn, 1)]]
def kp_274 : List (Nat × Nat × Nat × Int) := [(581, 2, 272, 5)]
def kr_274 : xR := (kc_274, kp_274, (4, 1, 0, 0, 12), yX12_bearer, cX12_bearer, (some .int))
abbrev cX12_isErrand : ByteArray := prog_14_method_106_code
def yX12_isErrand : MethodName := ⟨RX12, "isErrand", "(II)Z"⟩
def kc_276 : List (List (Nat × Instr × Nat)) := [[(0, .aload_n 0, 1), (1, .iload_n 1, 1), (2, .invokevirtual 514, 3), (5, .ifCond .eq 19, 3), (8, .iload_n 2, 1), (9, .ifCond .eq 15, 3), (12, .iload_n 2, 1), (13, .iconst 2, 1), (14, .irem, 1), (15, .ifCond .gt 9, 3)], [(18, .iload_n 2, 1), (19, .bipush 24, 2), (21, .if_icmp .le 5, 3), (24, .iconst 0, 1), (25, .ireturn, 1), (26, .aload_n 0, 1), (27, .getfield 159, 3), (30, .iload_n 1, 1), (31, .iaload, 1)], [(32, .istore_n 3, 1), (33, .iconst 0, 1), (34, .istore 4, 2), (36, .iload 4, 2), (38, .iload_n 2, 1), (39, .if_icmp .ge 61, 3), (42, .aload_n 0, 1), (43, .aload_n 0, 1), (44, .getfield 7, 3), (47, .iload 4, 2)], [(49, .iaload, 1), (50, .invokevirtual 508, 3), (53, .ifCond .eq 31, 3), (56, .aload_n 0, 1), (57, .getfield 7, 3), (60, .iload 4, 2), (62, .iconst 1, 1), (63, .iadd, 1)], [(64, .iaload, 1), (65, .iconst 1, 1), (66, .if_icmp .gt 18, 3), (69, .aload_n 0, 1), (70, .iload_n 3, 1), (71, .aload_n 0, 1), (72, .getfield 7, 3), (75, .iload 4, 2), (77, .iaload, 1), (78, .invokevirtual 511, 3)], [(81, .ifCond .ne 5, 3), (84, .iconst 0, 1), (85, .ireturn, 1), (86, .aload_n 0, 1), (87, .getfield 7, 3), (90, .iload 4, 2), (92, .iaload, 1), (93, .istore_n 3, 1), (94, .iinc 4 2, 3)], [(97, .goto (-61), 3), (100, .iconst 1, 1), (101, .ireturn, 1)]]
def kp_276 : List (Nat × Nat × Nat × Int) := [(7, 1, 12, 0), (159, 1, 12, 48), (508, 2, 220, 1), (514, 2, 221, 1)]
def kr_276 : xR := (kc_276, kp_276, (5, 2, 0, 0, 12), yX12_isErrand, cX12_isErrand, (some .boolean))
abbrev cX12_errand : ByteArray := prog_14_method_107_code
def yX12_errand : MethodName := ⟨RX12, "errand", "(I)I"⟩
def kc_277 : List (List (Nat × Instr × Nat)) := [[(0, .aload_n 0, 1), (1, .getfield 13, 3), (4, .istore_n 2, 1), (5, .aload_n 0, 1), (6, .iconst 0, 1), (7, .putfield 13, 3), (10, .aload_n 0, 1), (11, .iload_n 1, 1), (12, .iload_n 2, 1), (13, .invokevirtual 588, 3)], [(16, .ifCond .ne 9, 3), (19, .aload_n 0, 1), (20, .iconst 5, 1), (21, .invokevirtual 255, 3), (24, .ireturn, 1), (25, .iload_n 2, 1), (26, .iconst 2, 1), (27, .idiv, 1), (28, .istore_n 3, 1), (29, .iconst (-1), 1), (30, .istore 4, 2)], [(32, .ldc_w 571, 3), (35, .istore 5, 2), (37, .iconst 0, 1), (38, .istore 6, 2), (40, .iload 6, 2), (42, .iconst 1, 1), (43, .iload_n 3, 1), (44, .ishl, 1), (45, .if_icmp .ge 43, 3)], [(48, .aload_n 0, 1), (49, .iload_n 1, 1), (50, .iload_n 3, 1), (51, .iload 6, 2), (53, .invokevirtual 591, 3), (56, .istore 7, 2), (58, .iload 7, 2), (60, .iconst (-1), 1), (61, .if_icmp .eq 21, 3)], [(64, .iload 7, 2), (66, .iload 5, 2), (68, .if_icmp .lt 6, 3), (71, .goto 11, 3), (74, .iload 7, 2), (76, .istore 5, 2), (78, .iload 6, 2)], [(80, .istore 4, 2), (82, .iinc 6 1, 3), (85, .goto (-45), 3), (88, .aload_n 0, 1), (89, .iload 4, 2), (91, .iconst (-1), 1), (92, .if_icmp .ne 7, 3), (95, .iconst 0, 1)], [(96, .goto 4, 3), (99, .iload_n 3, 1), (100, .putfield 219, 3), (103, .iconst 0, 1), (104, .istore 6, 2), (106, .iload 6, 2), (108, .aload_n 0, 1), (109, .getfield 219, 3)], [(112, .if_icmp .ge 35, 3), (115, .aload_n 0, 1), (116, .getfield 222, 3), (119, .iload 6, 2), (121, .iload 4, 2), (123, .iload_n 3, 1), (124, .iconst 1, 1), (125, .isub, 1), (126, .iload 6, 2)], [(128, .isub, 1), (129, .invokestatic 585, 3), (132, .ifCond .eq 7, 3), (135, .iconst 1, 1), (136, .goto 4, 3), (139, .iconst 0, 1), (140, .iastore, 1), (141, .iinc 6 1, 3)], [(144, .goto (-38), 3), (147, .iload 4, 2), (149, .iconst (-1), 1), (150, .if_icmp .ne 7, 3), (153, .iconst (-1), 1), (154, .goto 5, 3), (157, .iload 5, 2), (159, .ireturn, 1)]]
def kp_277 : List (Nat × Nat × Nat × Int) := [(13, 1, 12, 1), (219, 1, 12, 68), (222, 1, 12, 69), (255, 2, 218, 1), (571, 7, 0, 100000000), (588, 2, 276, 2)]
def kr_277 : xR := (kc_277, kp_277, (8, 1, 0, 0, 12), yX12_errand, cX12_errand, (some .int))
abbrev cX12_along : ByteArray := prog_14_method_108_code
def yX12_along : MethodName := ⟨RX12, "along", "(I)I"⟩
def kc_278 : List (List (Nat × Instr × Nat)) := [[(0, .iload_n 1, 1), (1, .iconst 0, 1), (2, .aload_n 0, 1), (3, .getfield 219, 3), (6, .iconst 1, 1), (7, .isub, 1), (8, .invokestatic 345, 3), (11, .ifCond .eq 12, 3), (14, .aload_n 0, 1), (15, .getfield 222, 3)], [(18, .iload_n 1, 1), (19, .iaload, 1), (20, .goto 4, 3), (23, .iconst (-1), 1), (24, .ireturn, 1)]]
def kp_278 : List (Nat × Nat × Nat × Int) := [(219, 1, 12, 68), (222, 1, 12, 69), (345, 6, 172, 3)]
def kr_278 : xR := (kc_278, kp_278, (2, 1, 0, 0, 12), yX12_along, cX12_along, (some .int))
abbrev cX12_seated : ByteArray := prog_14_method_110_code
def yX12_seated : MethodName := ⟨RX12, "seated", "(II)I"⟩
def kc_280 : List (List (Nat × Instr × Nat)) := [[(0, .aload_n 0, 1), (1, .iload_n 1, 1), (2, .invokevirtual 508, 3), (5, .ifCond .eq 24, 3), (8, .iload_n 2, 1), (9, .iconst 0, 1), (10, .iconst 1, 1), (11, .aload_n 0, 1), (12, .getfield 69, 3), (15, .aload_n 0, 1)], [(16, .getfield 54, 3), (19, .iaload, 1), (20, .ishl, 1), (21, .iconst 1, 1), (22, .isub, 1), (23, .invokestatic 345, 3), (26, .ifCond .ne 5, 3), (29, .iconst (-1), 1), (30, .ireturn, 1), (31, .iconst 0, 1)], [(32, .istore_n 3, 1), (33, .iconst 1, 1), (34, .istore 4, 2), (36, .iload 4, 2), (38, .iconst 1, 1), (39, .aload_n 0, 1), (40, .getfield 69, 3), (43, .aload_n 0, 1), (44, .getfield 54, 3), (47, .iaload, 1)], [(48, .ishl, 1), (49, .if_icmp .ge 43, 3), (52, .iload 4, 2), (54, .iload_n 2, 1), (55, .iconst (-1), 1), (56, .ixor, 1), (57, .iand, 1), (58, .ifCond .ne 28, 3), (61, .iload 4, 2), (63, .invokestatic 594, 3)], [(66, .iload_n 3, 1), (67, .invokestatic 594, 3), (70, .if_icmp .le 16, 3), (73, .aload_n 0, 1), (74, .iload_n 1, 1), (75, .iload 4, 2), (77, .invokevirtual 597, 3)], [(80, .ifCond .eq 6, 3), (83, .iload 4, 2), (85, .istore_n 3, 1), (86, .iinc 4 1, 3), (89, .goto (-53), 3), (92, .iload_n 3, 1), (93, .ireturn, 1)]]
def kp_280 : List (Nat × Nat × Nat × Int) := [(54, 1, 12, 14), (69, 1, 12, 19), (345, 6, 172, 3), (508, 2, 220, 1)]
def kr_280 : xR := (kc_280, kp_280, (5, 1, 0, 0, 12), yX12_seated, cX12_seated, (some .int))
abbrev cX12_isStanding : ByteArray := prog_14_method_113_code
def yX12_isStanding : MethodName := ⟨RX12, "isStanding", "(I)Z"⟩
def kc_283 : List (List (Nat × Instr × Nat)) := [[(0, .iload_n 1, 1), (1, .ifCond .eq 15, 3), (4, .iload_n 1, 1), (5, .iconst 2, 1), (6, .irem, 1), (7, .ifCond .gt 9, 3), (10, .iload_n 1, 1), (11, .bipush 16, 2), (13, .if_icmp .le 5, 3)], [(16, .iconst 0, 1), (17, .ireturn, 1), (18, .iconst 0, 1), (19, .istore_n 2, 1), (20, .iload_n 2, 1), (21, .iload_n 1, 1), (22, .if_icmp .ge 54, 3), (25, .aload_n 0, 1), (26, .aload_n 0, 1), (27, .getfield 7, 3), (30, .iload_n 2, 1), (31, .iaload, 1)], [(32, .invokevirtual 508, 3), (35, .ifCond .ne 5, 3), (38, .iconst 0, 1), (39, .ireturn, 1), (40, .iconst 0, 1), (41, .istore_n 3, 1), (42, .iload_n 3, 1), (43, .iload_n 2, 1), (44, .if_icmp .ge 26, 3), (47, .aload_n 0, 1)], [(48, .getfield 7, 3), (51, .iload_n 3, 1), (52, .iaload, 1), (53, .aload_n 0, 1), (54, .getfield 7, 3), (57, .iload_n 2, 1), (58, .iaload, 1), (59, .if_icmp .ne 5, 3), (62, .iconst 0, 1), (63, .ireturn, 1)], [(64, .iinc 3 2, 3), (67, .goto (-25), 3), (70, .iinc 2 2, 3), (73, .goto (-53), 3), (76, .iconst 1, 1), (77, .ireturn, 1)]]
def kp_283 : List (Nat × Nat × Nat × Int) := [(7, 1, 12, 0), (508, 2, 220, 1)]
def kr_283 : xR := (kc_283, kp_283, (4, 2, 0, 0, 12), yX12_isStanding, cX12_isStanding, (some .boolean))
abbrev cX12_standing : ByteArray := prog_14_method_114_code
def yX12_standing : MethodName := ⟨RX12, "standing", "()I"⟩
def kc_284 : List (List (Nat × Instr × Nat)) := [[(0, .aload_n 0, 1), (1, .getfield 13, 3), (4, .istore_n 1, 1), (5, .aload_n 0, 1), (6, .iconst 0, 1), (7, .putfield 13, 3), (10, .aload_n 0, 1), (11, .iload_n 1, 1), (12, .invokevirtual 603, 3), (15, .ifCond .ne 9, 3)], [(18, .aload_n 0, 1), (19, .iconst 5, 1), (20, .invokevirtual 255, 3), (23, .ireturn, 1), (24, .aload_n 0, 1), (25, .iload_n 1, 1), (26, .iconst 2, 1), (27, .idiv, 1), (28, .putfield 231, 3), (31, .iconst 0, 1)], [(32, .istore_n 2, 1), (33, .iload_n 2, 1), (34, .aload_n 0, 1), (35, .getfield 231, 3), (38, .if_icmp .ge 39, 3), (41, .aload_n 0, 1), (42, .getfield 234, 3), (45, .iload_n 2, 1), (46, .aload_n 0, 1), (47, .getfield 7, 3)], [(50, .iconst 2, 1), (51, .iload_n 2, 1), (52, .imul, 1), (53, .iaload, 1), (54, .iastore, 1), (55, .aload_n 0, 1), (56, .getfield 237, 3), (59, .iload_n 2, 1), (60, .aload_n 0, 1), (61, .getfield 7, 3)], [(64, .iconst 2, 1), (65, .iload_n 2, 1), (66, .imul, 1), (67, .iconst 1, 1), (68, .iadd, 1), (69, .iaload, 1), (70, .iastore, 1), (71, .iinc 2 1, 3), (74, .goto (-41), 3), (77, .aload_n 0, 1), (78, .iconst 1, 1), (79, .putfield 225, 3)], [(82, .iconst 0, 1), (83, .istore_n 2, 1), (84, .iload_n 2, 1), (85, .aload_n 0, 1), (86, .getfield 69, 3), (89, .aload_n 0, 1), (90, .getfield 54, 3), (93, .iaload, 1), (94, .if_icmp .ge 47, 3)], [(97, .iconst 0, 1), (98, .istore_n 3, 1), (99, .iload_n 3, 1), (100, .aload_n 0, 1), (101, .getfield 57, 3), (104, .aload_n 0, 1), (105, .getfield 54, 3), (108, .iaload, 1), (109, .if_icmp .ge 26, 3)], [(112, .aload_n 0, 1), (113, .getfield 228, 3), (116, .bipush 8, 2), (118, .iload_n 2, 1), (119, .imul, 1), (120, .iload_n 3, 1), (121, .iadd, 1), (122, .aload_n 0, 1), (123, .iload_n 2, 1), (124, .iload_n 3, 1), (125, .invokevirtual 606, 3)], [(128, .iastore, 1), (129, .iinc 3 1, 3), (132, .goto (-33), 3), (135, .iinc 2 1, 3), (138, .goto (-54), 3), (141, .aload_n 0, 1), (142, .iconst (-1), 1), (143, .iconst (-1), 1)], [(144, .invokevirtual 606, 3), (147, .ireturn, 1)]]
def kp_284 : List (Nat × Nat × Nat × Int) := [(7, 1, 12, 0), (13, 1, 12, 1), (54, 1, 12, 14), (57, 1, 12, 15), (69, 1, 12, 19), (225, 1, 12, 70), (228, 1, 12, 71), (231, 1, 12, 72), (234, 1, 12, 73), (237, 1, 12, 74), (255, 2, 218, 1), (603, 2, 283, 1)]
def kr_284 : xR := (kc_284, kp_284, (4, 1, 0, 0, 12), yX12_standing, cX12_standing, (some .int))
abbrev cX12_where : ByteArray := prog_14_method_115_code
def yX12_where : MethodName := ⟨RX12, "where", "(II)I"⟩
def kc_285 : List (List (Nat × Instr × Nat)) := [[(0, .aload_n 0, 1), (1, .getfield 225, 3), (4, .ifCond .eq 33, 3), (7, .aload_n 0, 1), (8, .iload_n 1, 1), (9, .invokevirtual 514, 3), (12, .ifCond .eq 25, 3), (15, .aload_n 0, 1)], [(16, .iload_n 2, 1), (17, .invokevirtual 508, 3), (20, .ifCond .eq 17, 3), (23, .aload_n 0, 1), (24, .getfield 228, 3), (27, .bipush 8, 2), (29, .iload_n 1, 1), (30, .imul, 1), (31, .iload_n 2, 1)], [(32, .iadd, 1), (33, .iaload, 1), (34, .goto 4, 3), (37, .iconst (-1), 1), (38, .ireturn, 1)]]
def kp_285 : List (Nat × Nat × Nat × Int) := [(225, 1, 12, 70), (228, 1, 12, 71), (508, 2, 220, 1), (514, 2, 221, 1)]
def kr_285 : xR := (kc_285, kp_285, (3, 1, 0, 0, 12), yX12_where, cX12_where, (some .int))
abbrev cX12_writes : ByteArray := prog_14_method_116_code
def yX12_writes : MethodName := ⟨RX12, "writes", "(I)V"⟩
def kc_286 : List (List (Nat × Instr × Nat)) := [[(0, .aload_n 0, 1), (1, .getfield 249, 3), (4, .aload_n 0, 1), (5, .getfield 252, 3), (8, .iload_n 1, 1), (9, .sipush 255, 3), (12, .iand, 1), (13, .iastore, 1), (14, .aload_n 0, 1), (15, .dup, 1)], [(16, .getfield 252, 3), (19, .iconst 1, 1), (20, .iadd, 1), (21, .putfield 252, 3), (24, .return_, 1)]]
def kp_286 : List (Nat × Nat × Nat × Int) := [(249, 1, 12, 78), (252, 1, 12, 79)]
def kr_286 : xR := (kc_286, kp_286, (2, 0, 0, 0, 12), yX12_writes, cX12_writes, none)
abbrev cX12_image : ByteArray := prog_14_method_118_code
def yX12_image : MethodName := ⟨RX12, "image", "()I"⟩
def kc_288 : List (List (Nat × Instr × Nat)) := [[(0, .aload_n 0, 1), (1, .iconst 0, 1), (2, .putfield 252, 3), (5, .iconst 0, 1), (6, .istore_n 1, 1), (7, .iload_n 1, 1), (8, .aload_n 0, 1), (9, .getfield 69, 3), (12, .aload_n 0, 1), (13, .getfield 54, 3)], [(16, .iaload, 1), (17, .if_icmp .ge 59, 3), (20, .aload_n 0, 1), (21, .aload_n 0, 1), (22, .getfield 159, 3), (25, .iload_n 1, 1), (26, .iaload, 1), (27, .invokevirtual 609, 3), (30, .aload_n 0, 1), (31, .aload_n 0, 1)], [(32, .getfield 162, 3), (35, .iload_n 1, 1), (36, .iaload, 1), (37, .invokevirtual 609, 3), (40, .aload_n 0, 1), (41, .aload_n 0, 1), (42, .getfield 165, 3), (45, .iload_n 1, 1), (46, .iaload, 1), (47, .invokevirtual 609, 3)], [(50, .aload_n 0, 1), (51, .aload_n 0, 1), (52, .getfield 168, 3), (55, .iload_n 1, 1), (56, .iaload, 1), (57, .invokevirtual 612, 3), (60, .aload_n 0, 1), (61, .aload_n 0, 1), (62, .getfield 171, 3)], [(65, .iload_n 1, 1), (66, .iaload, 1), (67, .invokevirtual 612, 3), (70, .iinc 1 1, 3), (73, .goto (-66), 3), (76, .bipush 113, 2), (78, .istore_n 1, 1), (79, .iconst 0, 1)], [(80, .istore_n 2, 1), (81, .iload_n 2, 1), (82, .aload_n 0, 1), (83, .getfield 252, 3), (86, .if_icmp .ge 24, 3), (89, .iconst 5, 1), (90, .iload_n 1, 1), (91, .imul, 1), (92, .aload_n 0, 1), (93, .getfield 249, 3)], [(96, .iload_n 2, 1), (97, .iaload, 1), (98, .iadd, 1), (99, .sipush 251, 3), (102, .irem, 1), (103, .istore_n 1, 1), (104, .iinc 2 1, 3), (107, .goto (-26), 3), (110, .aload_n 0, 1), (111, .iload_n 1, 1)], [(112, .invokevirtual 609, 3), (115, .aload_n 0, 1), (116, .getfield 252, 3), (119, .ireturn, 1)]]
def kp_288 : List (Nat × Nat × Nat × Int) := [(54, 1, 12, 14), (69, 1, 12, 19), (159, 1, 12, 48), (162, 1, 12, 49), (165, 1, 12, 50), (168, 1, 12, 51), (171, 1, 12, 52), (249, 1, 12, 78), (252, 1, 12, 79), (609, 2, 286, 1)]
def kr_288 : xR := (kc_288, kp_288, (3, 1, 0, 0, 12), yX12_image, cX12_image, (some .int))
abbrev cX12_octet : ByteArray := prog_14_method_119_code
def yX12_octet : MethodName := ⟨RX12, "octet", "(I)I"⟩
def kc_289 : List (List (Nat × Instr × Nat)) := [[(0, .iload_n 1, 1), (1, .iconst 0, 1), (2, .aload_n 0, 1), (3, .getfield 252, 3), (6, .iconst 1, 1), (7, .isub, 1), (8, .invokestatic 345, 3), (11, .ifCond .eq 12, 3), (14, .aload_n 0, 1), (15, .getfield 249, 3)], [(18, .iload_n 1, 1), (19, .iaload, 1), (20, .goto 4, 3), (23, .iconst (-1), 1), (24, .ireturn, 1)]]
def kp_289 : List (Nat × Nat × Nat × Int) := [(249, 1, 12, 78), (252, 1, 12, 79), (345, 6, 172, 3)]
def kr_289 : xR := (kc_289, kp_289, (2, 1, 0, 0, 12), yX12_octet, cX12_octet, (some .int))
abbrev cX12_comesOn : ByteArray := prog_14_method_122_code
def yX12_comesOn : MethodName := ⟨RX12, "comesOn", "(I)Z"⟩
def kc_292 : List (List (Nat × Instr × Nat)) := [[(0, .iload_n 1, 1), (1, .iconst 1, 1), (2, .bipush 9, 2), (4, .aload_n 0, 1), (5, .getfield 69, 3), (8, .aload_n 0, 1), (9, .getfield 54, 3), (12, .iaload, 1), (13, .imul, 1), (14, .iadd, 1), (15, .if_icmp .eq 5, 3)], [(18, .iconst 0, 1), (19, .ireturn, 1), (20, .bipush 113, 2), (22, .istore_n 2, 1), (23, .iconst 0, 1), (24, .istore_n 3, 1), (25, .iload_n 3, 1), (26, .iload_n 1, 1), (27, .iconst 1, 1), (28, .isub, 1), (29, .if_icmp .ge 24, 3)], [(32, .iconst 5, 1), (33, .iload_n 2, 1), (34, .imul, 1), (35, .aload_n 0, 1), (36, .getfield 7, 3), (39, .iload_n 3, 1), (40, .iaload, 1), (41, .iadd, 1), (42, .sipush 251, 3), (45, .irem, 1), (46, .istore_n 2, 1), (47, .iinc 3 1, 3)], [(50, .goto (-25), 3), (53, .aload_n 0, 1), (54, .getfield 7, 3), (57, .iload_n 1, 1), (58, .iconst 1, 1), (59, .isub, 1), (60, .iaload, 1), (61, .iload_n 2, 1), (62, .if_icmp .eq 5, 3)], [(65, .iconst 0, 1), (66, .ireturn, 1), (67, .aload_n 0, 1), (68, .iconst 1, 1), (69, .iconst 0, 1), (70, .invokevirtual 452, 3), (73, .aload_n 0, 1), (74, .getfield 174, 3), (77, .iconst 1, 1), (78, .iconst 0, 1), (79, .iastore, 1)], [(80, .iconst 0, 1), (81, .istore_n 3, 1), (82, .iload_n 3, 1), (83, .aload_n 0, 1), (84, .getfield 69, 3), (87, .aload_n 0, 1), (88, .getfield 54, 3), (91, .iaload, 1), (92, .if_icmp .ge 23, 3), (95, .aload_n 0, 1)], [(96, .iload_n 3, 1), (97, .bipush 9, 2), (99, .iload_n 3, 1), (100, .imul, 1), (101, .invokevirtual 618, 3), (104, .ifCond .ne 5, 3), (107, .iconst 0, 1), (108, .ireturn, 1), (109, .iinc 3 1, 3)], [(112, .goto (-30), 3), (115, .iconst 0, 1), (116, .istore_n 3, 1), (117, .iload_n 3, 1), (118, .aload_n 0, 1), (119, .getfield 57, 3), (122, .aload_n 0, 1), (123, .getfield 54, 3), (126, .iaload, 1), (127, .if_icmp .ge 85, 3)], [(130, .iconst 0, 1), (131, .istore 4, 2), (133, .iconst 0, 1), (134, .istore 5, 2), (136, .iload 5, 2), (138, .aload_n 0, 1), (139, .getfield 69, 3), (142, .aload_n 0, 1), (143, .getfield 54, 3)], [(146, .iaload, 1), (147, .if_icmp .ge 38, 3), (150, .iload 4, 2), (152, .aload_n 0, 1), (153, .getfield 162, 3), (156, .bipush 8, 2), (158, .iload 5, 2)], [(160, .iadd, 1), (161, .iaload, 1), (162, .iload_n 3, 1), (163, .if_icmp .ne 12, 3), (166, .aload_n 0, 1), (167, .iload 5, 2), (169, .invokevirtual 484, 3), (172, .goto 4, 3), (175, .iconst 0, 1)], [(176, .iadd, 1), (177, .istore 4, 2), (179, .iinc 5 1, 3), (182, .goto (-46), 3), (185, .iload 4, 2), (187, .aload_n 0, 1), (188, .getfield 63, 3), (191, .bipush 8, 2)], [(193, .aload_n 0, 1), (194, .getfield 54, 3), (197, .imul, 1), (198, .iload_n 3, 1), (199, .iadd, 1), (200, .iaload, 1), (201, .if_icmp .le 5, 3), (204, .iconst 0, 1), (205, .ireturn, 1), (206, .iinc 3 1, 3)], [(209, .goto (-92), 3), (212, .iconst 1, 1), (213, .ireturn, 1)]]
def kp_292 : List (Nat × Nat × Nat × Int) := [(7, 1, 12, 0), (54, 1, 12, 14), (57, 1, 12, 15), (63, 1, 12, 17), (69, 1, 12, 19), (162, 1, 12, 49), (174, 1, 12, 53), (452, 2, 224, 2)]
def kr_292 : xR := (kc_292, kp_292, (6, 2, 0, 0, 12), yX12_comesOn, cX12_comesOn, (some .boolean))
abbrev cX12_on : ByteArray := prog_14_method_123_code
def yX12_on : MethodName := ⟨RX12, "on", "()Z"⟩
def kc_293 : List (List (Nat × Instr × Nat)) := [[(0, .aload_n 0, 1), (1, .getfield 13, 3), (4, .istore_n 1, 1), (5, .aload_n 0, 1), (6, .iconst 0, 1), (7, .putfield 13, 3), (10, .aload_n 0, 1), (11, .iload_n 1, 1), (12, .invokevirtual 621, 3), (15, .ifCond .ne 17, 3)], [(18, .aload_n 0, 1), (19, .iconst 5, 1), (20, .invokevirtual 255, 3), (23, .ifCond .lt 7, 3), (26, .iconst 1, 1), (27, .goto 4, 3), (30, .iconst 0, 1), (31, .ireturn, 1)], [(32, .aload_n 0, 1), (33, .iconst 0, 1), (34, .iconst 1, 1), (35, .invokevirtual 452, 3), (38, .aload_n 0, 1), (39, .iconst 0, 1), (40, .putfield 192, 3), (43, .iconst 1, 1), (44, .ireturn, 1)]]
def kp_293 : List (Nat × Nat × Nat × Int) := [(13, 1, 12, 1), (192, 1, 12, 59), (255, 2, 218, 1), (452, 2, 224, 2), (621, 2, 292, 1)]
def kr_293 : xR := (kc_293, kp_293, (2, 2, 0, 0, 12), yX12_on, cX12_on, (some .boolean))
abbrev cJ7_fill_53178 : ByteArray := prog_19_method_103_code
def yJ7_fill_53178 : MethodName := ⟨RJ7, "fill", "([II)V"⟩
def kc_301 : List (List (Nat × Instr × Nat)) := [[(0, .iconst 0, 1), (1, .istore_n 2, 1), (2, .aload_n 0, 1), (3, .arraylength, 1), (4, .istore_n 3, 1), (5, .iload_n 2, 1), (6, .iload_n 3, 1), (7, .if_icmp .ge 13, 3), (10, .aload_n 0, 1), (11, .iload_n 2, 1), (12, .iload_n 1, 1), (13, .iastore, 1), (14, .iinc 2 1, 3)], [(17, .goto (-12), 3), (20, .return_, 1)]]
def kp_301 : List (Nat × Nat × Nat × Int) := []
def kr_301 : xR := (kc_301, kp_301, (4, 0, 0, 0, 999), yJ7_fill_53178, cJ7_fill_53178, none)
def kt_0 : List xR := [kr_0, kr_1, kr_2, k_none, k_none, k_none, k_none, k_none, k_none, kr_9, k_none, k_none, k_none, k_none, k_none, kr_15]
def kt_1 : List xR := [kr_16, k_none, kr_18, kr_19, k_none, k_none, k_none, k_none, k_none, kr_25, k_none, k_none, k_none, k_none, k_none, k_none]
def kt_2 : List xR := [kr_32, k_none, k_none, k_none, k_none, k_none, k_none, k_none, k_none, kr_41, kr_42, k_none, k_none, k_none, k_none, k_none]
def kt_3 : List xR := [kr_48, kr_49, kr_50, kr_51, kr_52, k_none, k_none, k_none, k_none, k_none, k_none, k_none, k_none, kr_61, k_none, k_none]
def kt_4 : List xR := [k_none, k_none, k_none, kr_67, k_none, k_none, kr_70, k_none, kr_72, k_none, kr_74, k_none, k_none, k_none, kr_78, k_none]
def kt_5 : List xR := [k_none, kr_81, k_none, k_none, k_none, k_none, k_none, k_none, kr_88, k_none, k_none, k_none, k_none, k_none, k_none, k_none]
def kt_6 : List xR := [k_none, k_none, k_none, k_none, k_none, k_none, kr_102, kr_103, kr_104, kr_105, kr_106, kr_107, k_none, k_none, k_none, k_none]
def kt_7 : List xR := [k_none, k_none, k_none, k_none, k_none, kr_117, k_none, k_none, kr_120, kr_121, k_none, k_none, k_none, k_none, k_none, k_none]
def kt_8 : List xR := [k_none, k_none, k_none, k_none, k_none, k_none, k_none, kr_135, kr_136, kr_137, kr_138, kr_139, kr_140, kr_141, kr_142, kr_143]
def kt_9 : List xR := [kr_144, kr_145, kr_146, kr_147, kr_148, kr_149, kr_150, kr_151, kr_152, kr_153, kr_154, kr_155, kr_156, kr_157, kr_158, kr_159]
def kt_10 : List xR := [kr_160, kr_161, kr_162, kr_163, kr_164, kr_165, k_none, kr_167, k_none, k_none, k_none, kr_171, kr_172, kr_173, kr_174, kr_175]
def kt_11 : List xR := [k_none, k_none, k_none, k_none, kr_180, k_none, k_none, k_none, k_none, kr_185, k_none, k_none, k_none, k_none, k_none, k_none]
def kt_12 : List xR := [k_none, k_none, k_none, k_none, k_none, k_none, k_none, k_none, k_none, k_none, k_none, k_none, k_none, k_none, k_none, k_none]
def kt_13 : List xR := [k_none, k_none, k_none, k_none, k_none, k_none, k_none, k_none, kr_216, kr_217, kr_218, kr_219, kr_220, kr_221, k_none, k_none]
def kt_14 : List xR := [kr_224, kr_225, kr_226, kr_227, kr_228, k_none, k_none, k_none, k_none, k_none, k_none, k_none, k_none, k_none, k_none, k_none]
def kt_15 : List xR := [k_none, k_none, k_none, k_none, k_none, k_none, kr_246, kr_247, kr_248, kr_249, kr_250, kr_251, k_none, kr_253, k_none, kr_255]
def kt_16 : List xR := [k_none, k_none, k_none, k_none, kr_260, k_none, kr_262, kr_263, k_none, k_none, kr_266, kr_267, kr_268, k_none, k_none, k_none]
def kt_17 : List xR := [kr_272, kr_273, kr_274, k_none, kr_276, kr_277, kr_278, k_none, kr_280, k_none, k_none, kr_283, kr_284, kr_285, kr_286, k_none]
def kt_18 : List xR := [kr_288, kr_289, k_none, k_none, kr_292, kr_293, k_none, k_none, k_none, k_none, k_none, k_none, k_none, kr_301, k_none]
def kT : List (List xR) := [kt_0, kt_1, kt_2, kt_3, kt_4, kt_5, kt_6, kt_7, kt_8, kt_9, kt_10, kt_11, kt_12, kt_13, kt_14, kt_15, kt_16, kt_17, kt_18]
def k_get (m : Nat) : xR := (kT.getD (m / 16) []).getD (m % 16) k_none
def k_P : xP := (fun m pc => k_find ((k_get m).1.getD (pc / 16) []) pc, fun m idx => (k_find (k_get m).2.1 idx).getD (0, 0, 0), fun m => (k_get m).2.2.1, fun ci => k_cls.getD ci [], fun m => (k_get m).2.2.2.1, fun m => (k_get m).2.2.2.2.1, fun m => (k_get m).2.2.2.2.2)
def k_E : xE := [(-2147483648, 2147483647), (-2147483648, 2147483647), (-2147483648, 2147483647), (-2147483648, 2147483647), (-2147483648, 2147483647), (-2147483648, 2147483647), (0, 6)]
def k_S : xS := ([(0, 0, [(0, (4, none, 0))], [], 0, 0)], [], k_E)
def k_used : List Nat := [1, 2, 9, 15, 16, 18, 19, 25, 32, 41, 42, 48, 49, 50, 51, 52, 61, 67, 70, 72, 74, 78, 81, 88, 102, 103, 104, 105, 106, 107, 117, 120, 121, 135, 136, 137, 138, 139, 140, 141, 142, 143, 144, 145, 146, 147, 148, 149, 150, 151, 152, 153, 154, 155, 156, 157, 158, 159, 160, 161, 162, 163, 164, 165, 167, 171, 172, 173, 174, 175, 180, 185, 216, 217, 218, 219, 220, 221, 224, 225, 226, 227, 228, 246, 247, 248, 249, 250, 251, 253, 255, 260, 262, 263, 266, 267, 268, 272, 273, 274, 276, 277, 278, 280, 283, 284, 285, 286, 288, 289, 292, 293, 301]
def k_ac : List Nat := [179, 1514, 1515]
end
section
/-! the tables are right: checks by the kernel -/
def k_chk : List Cond → List Nat → Bool
  | [], _ => true
  | w :: ws, i :: is => decide (lw_tbl[i]? = some w) && (goodWord w && k_chk ws is)
  | _ :: _, [] => false
theorem k_chk_ok : ∀ {ws : List Cond} {is : List Nat}, k_chk ws is = true → ∀ w ∈ ws, w ∈ x_tbl
  | [], _, _, w, hw => by cases hw
  | w :: ws, i :: is, h, v, hv => by
    simp only [k_chk, Bool.and_eq_true, decide_eq_true_eq] at h
    rcases List.mem_cons.mp hv with rfl | hv
    · exact List.mem_filter.mpr ⟨List.mem_of_getElem? h.1, h.2.1⟩
    · exact k_chk_ok h.2.2 v hv
  | _ :: _, [], h, _, _ => by cases h
def k_rt : Nat → Option FieldType → Bool
  | 0, none => true
  | 1, some .int => true
  | 2, some .boolean => true
  | 3, some .long => true
  | _, _ => false
def k_m (j : Nat) (is : List Nat) : Bool := k_chk [Cond.initialized (x_nm k_P j).cls] is && (plainName (x_nm k_P j).cls && (decide ((x_nm k_P j).cls ≠ "java/lang/invoke/MethodHandle") && (decide ((x_nm k_P j).cls ≠ "java/lang/invoke/VarHandle") && (k_rt (x_retk k_P j) (x_rt k_P j) && decide (j ≠ 0)))))
theorem k_m_ok {j : Nat} {is : List Nat} (hcw : Cond.code (x_nm k_P j) (x_by k_P j) (x_maxL k_P j) (x_rt k_P j) ∈ lw_tbl) (h : k_m j is = true) : x_okm k_P j := by
  simp only [k_m, Bool.and_eq_true, decide_eq_true_eq] at h
  obtain ⟨h1, h2, h3, h4, h5, h6⟩ := h
  have hw := k_chk_ok h1
  refine ⟨List.mem_filter.mpr ⟨hcw, rfl⟩, hw _ (by simp), h2, ⟨h3, h4⟩, ?_, h6⟩
  revert h5
  generalize x_retk k_P j = a
  generalize x_rt k_P j = b
  intro h5
  match a, b, h5 with
  | 0, none, _ => rfl
  | 1, some .int, _ => rfl
  | 2, some .boolean, _ => rfl
  | 3, some .long, _ => rfl
def k_w (own : String) (idx kd a : Nat) (b : Int) : List Cond := match kd with
  | 1 => match k_cl[a]? with
    | some C => [.fieldLink own idx (C.2.1 b.toNat).1 (C.2.1 b.toNat).2.1 (C.2.1 b.toNat).2.2.1]
    | none => []
  | 2 => [.methodLink own idx (x_nm k_P a), .instanceMethod (x_nm k_P a), .selects (x_nm k_P a).cls (x_nm k_P a) (x_nm k_P a)]
  | 3 => [.methodLink own idx (x_nm k_P a), .instanceMethod (x_nm k_P a)]
  | 4 => [.instanceMethod (x_nm k_P a)]
  | 5 => [.methodLink own idx objectInit, .instanceMethod objectInit, .code objectInit ⟨#[0xb1]⟩ 1 none]
  | 6 => [.methodLink own idx (x_nm k_P a), .static (x_nm k_P a)]
  | 7 => [.constant own idx (Int32.ofInt b)]
  | 8 => [.constantLong own idx (Int64.ofInt b)]
  | 9 => match k_cl[a]? with
    | some C => [.classLink own idx C.1, .instantiable C.1 C.2.2, .initialized C.1]
    | none => []
  | 10 => [.methodLink own idx arraycopyName, .native arraycopyName, .static arraycopyName, .initialized "java/lang/System"]
  | 13 => [.methodLink own idx Lib.Math.min.name, .static Lib.Math.min.name, .initialized "java/lang/Math", .code Lib.Math.min.name Lib.Math.min.code 2 (some .int)]
  | 14 => [.methodLink own idx Lib.Math.max.name, .static Lib.Math.max.name, .initialized "java/lang/Math", .code Lib.Math.max.name Lib.Math.max.code 2 (some .int)]
  | _ => []
def k_args (a : Nat) (b : Int) : Bool := decide ((parseMethodDescriptor (x_nm k_P a).desc).map (fun d => d.parameters.length) = some b.toNat)
theorem k_args_ok {a : Nat} {b : Int} (h : k_args a b = true) : x_oka k_P a b := by
  unfold k_args at h
  have h2 := of_decide_eq_true h
  exact h2
def k_b (own : String) (idx kd a : Nat) (b : Int) (is : List Nat) : Bool := match kd with
  | 1 => match k_cl[a]? with
    | some C => decide (b.toNat < C.2.2)
    | none => false
  | 2 => k_used.contains a && (k_args a b && (match k_cl[x_mci k_P a]? with
    | some C => decide (C.1 = (x_nm k_P a).cls)
    | none => false))
  | 3 => k_used.contains a && (k_args a b && (decide ((x_nm k_P a).name = "<init>") && (x_rt k_P a).isNone))
  | 4 => k_used.contains a && (k_args a b && (decide ((x_nm k_P a).name = "<init>") && ((x_rt k_P a).isNone && decide (lw_tbl[is.getD 1 0]? = some (.methodLinkNest own idx (x_nm k_P a) "OwnChair")))))
  | 6 => k_used.contains a && k_args a b
  | 7 => decide ((Int32.ofInt b).toInt = b)
  | 8 => decide ((Int64.ofInt b).toInt = b)
  | 9 => (k_cl[a]?).isSome
  | _ => true
def k_ent (own : String) (q : Nat × Nat × Nat × Int) (is : List Nat) : Bool := k_chk (k_w own q.1 q.2.1 q.2.2.1 q.2.2.2) is && k_b own q.1 q.2.1 q.2.2.1 q.2.2.2 is
theorem k_ent_ok (hm : ∀ j ∈ k_used, x_okm k_P j) {own : String} {q : Nat × Nat × Nat × Int} {is : List Nat} (h : k_ent own q is = true) : x_okp k_cl k_P own q.1 q.2 := by
  obtain ⟨idx, kd, a, b⟩ := q
  simp only [k_ent, Bool.and_eq_true] at h
  obtain ⟨h1, h2⟩ := h
  have hw := k_chk_ok h1
  match kd, hw, h2 with
  | 0, _, _ => exact trivial
  | 1, hw, h2 =>
    simp only [k_w, k_b] at hw h2
    cases hC : k_cl[a]? with
    | none => rw [hC] at h2; cases h2
    | some C =>
      rw [hC] at hw h2
      exact ⟨C, hC, by simpa using h2, hw _ (by simp)⟩
  | 2, hw, h2 =>
    simp only [k_w, k_b, Bool.and_eq_true] at hw h2
    obtain ⟨g1, g2, g3⟩ := h2
    cases hC : k_cl[x_mci k_P a]? with
    | none => rw [hC] at g3; cases g3
    | some C =>
      rw [hC] at g3
      exact ⟨hm a (by simpa using g1), k_args_ok g2, hw _ (by simp), hw _ (by simp), hw _ (by simp), C, hC, by simpa using g3⟩
  | 3, hw, h2 =>
    simp only [k_w, k_b, Bool.and_eq_true, decide_eq_true_eq, Option.isNone_iff_eq_none] at hw h2
    obtain ⟨g1, g2, g3, g4⟩ := h2
    exact ⟨hm a (by simpa using g1), k_args_ok g2, hw _ (by simp), hw _ (by simp), g3, g4⟩
  | 4, hw, h2 =>
    simp only [k_w, k_b, Bool.and_eq_true, decide_eq_true_eq, Option.isNone_iff_eq_none] at hw h2
    obtain ⟨g1, g2, g3, g4, g5⟩ := h2
    exact ⟨hm a (by simpa using g1), k_args_ok g2, ⟨"OwnChair", List.mem_filter.mpr ⟨List.mem_of_getElem? g5, rfl⟩⟩, hw _ (by simp), g3, g4⟩
  | 5, hw, h2 =>
    simp only [k_w] at hw
    exact ⟨hw _ (by simp), hw _ (by simp), hw _ (by simp)⟩
  | 6, hw, h2 =>
    simp only [k_w, k_b, Bool.and_eq_true] at hw h2
    exact ⟨hm a (by simpa using h2.1), k_args_ok h2.2, hw _ (by simp), hw _ (by simp)⟩
  | 7, hw, h2 =>
    simp only [k_w, k_b, decide_eq_true_eq] at hw h2
    exact ⟨_, hw _ (by simp), h2⟩
  | 8, hw, h2 =>
    simp only [k_w, k_b, decide_eq_true_eq] at hw h2
    exact ⟨_, hw _ (by simp), h2⟩
  | 9, hw, h2 =>
    simp only [k_w, k_b] at hw h2
    cases hC : k_cl[a]? with
    | none => rw [hC] at h2; cases h2
    | some C =>
      rw [hC] at hw
      exact ⟨C, hC, hw _ (by simp), hw _ (by simp), hw _ (by simp)⟩
  | 10, hw, h2 =>
    simp only [k_w] at hw
    exact ⟨hw _ (by simp), hw _ (by simp), hw _ (by simp), hw _ (by simp)⟩
  | 11, _, _ => exact trivial
  | 12, _, _ => exact trivial
  | 13, hw, h2 =>
    simp only [k_w] at hw
    exact ⟨hw _ (by simp), hw _ (by simp), hw _ (by simp), hw _ (by simp)⟩
  | 14, hw, h2 =>
    simp only [k_w] at hw
    exact ⟨hw _ (by simp), hw _ (by simp), hw _ (by simp), hw _ (by simp)⟩
  | _ + 15, _, _ => exact trivial
def k_ents (own : String) : List (Nat × Nat × Nat × Int) → List (List Nat) → Bool
  | [], _ => true
  | q :: l, is :: hs => k_ent own q is && k_ents own l hs
  | _ :: _, [] => false
theorem k_ents_ok (hm : ∀ j ∈ k_used, x_okm k_P j) {own : String} : ∀ {l : List (Nat × Nat × Nat × Int)} {hs : List (List Nat)}, k_ents own l hs = true → ∀ q ∈ l, x_okp k_cl k_P own q.1 q.2
  | [], _, _, q, hq => by cases hq
  | a :: l, is :: hs, h, q, hq => by
    simp only [k_ents, Bool.and_eq_true] at h
    rcases List.mem_cons.mp hq with rfl | hq
    · exact k_ent_ok hm h.1
    · exact k_ents_ok hm h.2 q hq
  | _ :: _, [], h, _, _ => by cases h
/-- a record: its code, its pool, its class -/
def k_own (r : xR) : Bool := match k_cl[r.2.2.1.2.2.2.2]? with
  | some C => decide (C.1 = r.2.2.2.1.cls)
  | none => true
def k_recP (r : xR) : Prop := (∀ ch ∈ r.1, ∀ q ∈ ch, decode r.2.2.2.2.1 q.1 = .ok q.2) ∧ (∀ q ∈ r.2.1, x_okp k_cl k_P r.2.2.2.1.cls q.1 q.2) ∧ ∀ C : vw_C, r.2.2.2.1.name = "<init>" → k_cl[r.2.2.1.2.2.2.2]? = some C → C.1 = r.2.2.2.1.cls
theorem k_rec_ok (hm : ∀ j ∈ k_used, x_okm k_P j) {r : xR} {hs : List (List Nat)} (h1 : ∀ ch ∈ r.1, ∀ q ∈ ch, decode r.2.2.2.2.1 q.1 = .ok q.2) (h2 : k_ents r.2.2.2.1.cls r.2.1 hs = true) (h3 : k_own r = true) : k_recP r := by
  refine ⟨h1, k_ents_ok hm h2, fun C _ hC => ?_⟩
  unfold k_own at h3
  rw [hC] at h3
  simpa using h3
theorem k_none_ok : k_recP k_none := ⟨fun _ h => absurd h List.not_mem_nil, fun _ h => absurd h List.not_mem_nil, fun _ h _ => absurd h (by decide)⟩
theorem k_find_mem {α : Type} {i : Nat} {q : α} : ∀ {l : List (Nat × α)}, k_find l i = some q → (i, q) ∈ l
  | [], h => by cases h
  | a :: l, h => by
    unfold k_find at h
    cases hb : Nat.beq a.1 i with
    | true =>
      rw [hb] at h
      cases h
      have := Nat.eq_of_beq_eq_true hb
      subst this
      exact List.mem_cons_self
    | false =>
      rw [hb] at h
      exact List.mem_cons_of_mem _ (k_find_mem h)
theorem k_getD_mem {α : Type} {d : α} {l : List α} {i : Nat} : l.getD i d = d ∨ l.getD i d ∈ l := by
  rw [List.getD_eq_getElem?_getD]
  cases h : l[i]? with
  | none => exact Or.inl rfl
  | some a => exact Or.inr (List.mem_of_getElem? h)
theorem k_get_ok (h : ∀ t ∈ kT, ∀ r ∈ t, k_recP r) (m : Nat) : k_recP (k_get m) := by
  unfold k_get
  rcases k_getD_mem (d := ([] : List xR)) (l := kT) (i := m / 16) with e | e
  · rw [e]; exact k_none_ok
  · rcases k_getD_mem (d := k_none) (l := kT.getD (m / 16) []) (i := m % 16) with g | g
    · rw [g]; exact k_none_ok
    · exact h _ e _ g
/-- a class -/
def k_tyk : Nat → FieldType → Bool
  | 0, .int => true
  | 1, .long => true
  | 2, .object _ => true
  | 2, .array _ => true
  | 3, .boolean => true
  | _, _ => false
theorem k_tyk_ok {k : Nat} {ty : FieldType} (h : k_tyk k ty = true) : x_tyk k ty := by
  match k, ty, h with
  | 0, .int, _ => rfl
  | 1, .long, _ => rfl
  | 2, .object n, _ => exact Or.inl ⟨n, rfl⟩
  | 2, .array n, _ => exact Or.inr ⟨n, rfl⟩
  | 3, .boolean, _ => rfl
def k_fld (C : vw_C) (ty : Nat → FieldType) : Nat → List Nat → Bool
  | _, [] => true
  | k, kd :: l => k_tyk (kd % 10) (ty k) && ((C.2.1 k).2.2.2 == decide (10 ≤ kd) && (decide ((C.2.1 k).1 = C.1) && k_fld C ty (k + 1) l))
theorem k_fld_ok {C : vw_C} {ty : Nat → FieldType} : ∀ {l : List Nat} {n : Nat}, k_fld C ty n l = true → ∀ (k kd : Nat), l[k]? = some kd → x_tyk (kd % 10) (ty (n + k)) ∧ (C.2.1 (n + k)).2.2.2 = decide (10 ≤ kd) ∧ (C.2.1 (n + k)).1 = C.1
  | [], _, _, k, kd, hk => by simp at hk
  | a :: l, n, h, 0, kd, hk => by
    simp only [k_fld, Bool.and_eq_true, beq_iff_eq, decide_eq_true_eq] at h
    have hk : a = kd := by simpa using hk
    subst hk
    exact ⟨k_tyk_ok h.1, h.2.1, h.2.2.1⟩
  | a :: l, n, h, k + 1, kd, hk => by
    simp only [k_fld, Bool.and_eq_true, beq_iff_eq, decide_eq_true_eq] at h
    have := k_fld_ok h.2.2.2 k kd (by simpa using hk)
    rw [show n + (k + 1) = n + 1 + k by omega]
    exact this
theorem k_cls_ok {ci : Nat} {C : vw_C} {ty : Nat → FieldType} {is : List Nat} (h1 : k_chk (u_ws C.1 C.2.1 C.2.2) is = true) (h2 : C.2.2 = (x_cls k_P ci).length) (h3 : ∀ a, a < C.2.2 → ∀ b, b < C.2.2 → a ≠ b → (C.2.1 a).2.1 ≠ (C.2.1 b).2.1) (h4 : ∀ k, k < C.2.2 → parseFieldDescriptor (C.2.1 k).2.2.1 = some (ty k)) (h5 : k_fld C ty 0 (x_cls k_P ci) = true) : x_okc k_P ci C :=
  ⟨k_chk_ok h1, h2, h3, ty, h4, fun k kd hk => by have := k_fld_ok h5 k kd hk; rwa [Nat.zero_add] at this⟩
theorem k_maxL_eq (m : Nat) : x_maxL k_P m = (k_get m).2.2.1.1 := by unfold x_maxL k_P; rfl
theorem k_rt_eq (m : Nat) : x_rt k_P m = (k_get m).2.2.2.2.2 := by unfold x_rt k_P; rfl
theorem k_dec_app {a b : List (List (Nat × Instr × Nat))} {cc : ByteArray} (h1 : ∀ ch ∈ a, ∀ q ∈ ch, decode cc q.1 = .ok q.2) (h2 : ∀ ch ∈ b, ∀ q ∈ ch, decode cc q.1 = .ok q.2) : ∀ ch ∈ a ++ b, ∀ q ∈ ch, decode cc q.1 = .ok q.2 := List.forall_mem_append.mpr ⟨h1, h2⟩
def k_decL (cc : ByteArray) (l : List (List (Nat × Instr × Nat))) : Bool := l.all (fun ch => ch.all (fun q => decide (decode cc q.1 = .ok q.2)))
theorem k_decL_ok {cc : ByteArray} {l : List (List (Nat × Instr × Nat))} (h : k_decL cc l = true) : ∀ ch ∈ l, ∀ q ∈ ch, decode cc q.1 = .ok q.2 := by
  intro ch hc q hq
  have := List.all_eq_true.mp (List.all_eq_true.mp h ch hc) q hq
  simpa using this
theorem k_code_eq (m pc : Nat) : x_code k_P m pc = k_find ((k_get m).1.getD (pc / 16) []) pc := by unfold x_code k_P; rfl
theorem k_pool_eq (m idx : Nat) : x_pool k_P m idx = (k_find (k_get m).2.1 idx).getD (0, 0, 0) := by unfold x_pool k_P; rfl
theorem k_nm_eq (m : Nat) : x_nm k_P m = (k_get m).2.2.2.1 := by unfold x_nm k_P; rfl
theorem k_by_eq (m : Nat) : x_by k_P m = (k_get m).2.2.2.2.1 := by unfold x_by k_P; rfl
theorem k_mci_eq (m : Nat) : x_mci k_P m = (k_get m).2.2.1.2.2.2.2 := by unfold x_mci k_P; rfl
/-- the code's word of a record -/
theorem k_cw {j : Nat} {r : xR} (hr : k_get j = r) {y : MethodName} {cc : ByteArray} {n : Nat} {rt : Option FieldType} (h1 : r.2.2.2.1 = y) (h2 : r.2.2.2.2.1 = cc) (h3 : r.2.2.1.1 = n) (h4 : r.2.2.2.2.2 = rt) (hm : Cond.code y cc n rt ∈ lw_tbl) : Cond.code (x_nm k_P j) (x_by k_P j) (x_maxL k_P j) (x_rt k_P j) ∈ lw_tbl := by
  rw [k_nm_eq, k_by_eq, k_maxL_eq, k_rt_eq, hr, h1, h2, h3, h4]
  exact hm
theorem k_OK1 {r : xR} (hg : k_recP r) {pc : Nat} {i : Instr} {len : Nat} (h : k_find (r.1.getD (pc / 16) []) pc = some (i, len)) : decode r.2.2.2.2.1 pc = .ok (i, len) := by
  have h1 := k_find_mem h
  rcases k_getD_mem (d := ([] : List (Nat × Instr × Nat))) (l := r.1) (i := pc / 16) with e | e
  · rw [e] at h1; exact absurd h1 List.not_mem_nil
  · have h2 := hg.1 _ e (pc, i, len) h1
    exact h2
theorem k_OK2 {r : xR} (hg : ∀ q ∈ r.2.1, x_okp k_cl k_P r.2.2.2.1.cls q.1 q.2) (idx : Nat) : x_okp k_cl k_P r.2.2.2.1.cls idx ((k_find r.2.1 idx).getD (0, 0, 0)) := by
  cases h : k_find r.2.1 idx with
  | none => exact trivial
  | some q =>
    have h2 := hg (idx, q) (k_find_mem h)
    exact h2
theorem k_OK (hm : ∀ j ∈ k_used, x_okm k_P j) (hr : ∀ t ∈ kT, ∀ r ∈ t, k_recP r) (hc : ∀ (ci : Nat) (q : vw_C), k_cl[ci]? = some q → x_okc k_P ci q) (ha : k_chk [.arrayClass .int, .arrayClass .long, .arrayClass .boolean] k_ac = true) : x_OK k_cl k_P := by
  have hg := k_get_ok hr
  have hw := k_chk_ok ha
  refine ⟨fun m pc i len h => ?_, hc, fun m idx => ?_, hw _ (by simp), hw _ (by simp), hw _ (by simp), fun m C h1 h2 => ?_⟩
  · rw [k_code_eq] at h
    rw [k_by_eq]
    exact k_OK1 (hg m) h
  · rw [k_nm_eq, k_pool_eq]
    exact k_OK2 (hg m).2.1 idx
  · rw [k_nm_eq] at h1 ⊢
    rw [k_mci_eq] at h2
    exact (hg m).2.2 C h1 h2
end
section
set_option maxRecDepth 100000 in
theorem kcw_1 : Cond.code yX0_init cX0_init 1 none ∈ lw_tbl := (List.mem_append_right _ (List.mem_append_right _ (List.mem_append_left _ (List.mem_of_getElem? (i := 66) rfl))))
theorem kg_1 : k_get 1 = kr_1 := rfl
theorem km_1 : x_okm k_P 1 := k_m_ok (k_cw kg_1 rfl rfl rfl rfl kcw_1) (is := [142]) (by decide +kernel)
set_option maxRecDepth 100000 in
theorem kcw_2 : Cond.code yX0_isTold cX0_isTold 7 (some .boolean) ∈ lw_tbl := (List.mem_append_right _ (List.mem_append_right _ (List.mem_append_right _ (List.mem_append_right _ (List.mem_append_right _ (List.mem_append_left _ (List.mem_of_getElem? (i := 36) rfl)))))))
theorem kg_2 : k_get 2 = kr_2 := rfl
theorem km_2 : x_okm k_P 2 := k_m_ok (k_cw kg_2 rfl rfl rfl rfl kcw_2) (is := [142]) (by decide +kernel)
set_option maxRecDepth 100000 in
theorem kcw_9 : Cond.code yX1_init cX1_init 1 none ∈ lw_tbl := (List.mem_append_right _ (List.mem_append_left _ (List.mem_of_getElem? (i := 133) rfl)))
theorem kg_9 : k_get 9 = kr_9 := rfl
theorem km_9 : x_okm k_P 9 := k_m_ok (k_cw kg_9 rfl rfl rfl rfl kcw_9) (is := [139]) (by decide +kernel)
set_option maxRecDepth 100000 in
theorem kcw_15 : Cond.code yX2_init cX2_init 1 none ∈ lw_tbl := (List.mem_append_right _ (List.mem_append_right _ (List.mem_append_left _ (List.mem_of_getElem? (i := 20) rfl))))
theorem kg_15 : k_get 15 = kr_15 := rfl
theorem km_15 : x_okm k_P 15 := k_m_ok (k_cw kg_15 rfl rfl rfl rfl kcw_15) (is := [140]) (by decide +kernel)
set_option maxRecDepth 100000 in
theorem kcw_16 : Cond.code yX2_remember cX2_remember 2 none ∈ lw_tbl := (List.mem_append_right _ (List.mem_append_right _ (List.mem_append_right _ (List.mem_append_right _ (List.mem_append_left _ (List.mem_of_getElem? (i := 126) rfl))))))
theorem kg_16 : k_get 16 = kr_16 := rfl
theorem km_16 : x_okm k_P 16 := k_m_ok (k_cw kg_16 rfl rfl rfl rfl kcw_16) (is := [140]) (by decide +kernel)
set_option maxRecDepth 100000 in
theorem kcw_18 : Cond.code yX3_init cX3_init 1 none ∈ lw_tbl := (List.mem_append_right _ (List.mem_append_left _ (List.mem_of_getElem? (i := 65) rfl)))
theorem kg_18 : k_get 18 = kr_18 := rfl
theorem km_18 : x_okm k_P 18 := k_m_ok (k_cw kg_18 rfl rfl rfl rfl kcw_18) (is := [136]) (by decide +kernel)
set_option maxRecDepth 100000 in
theorem kcw_19 : Cond.code yX3_begin cX3_begin 2 none ∈ lw_tbl := (List.mem_append_right _ (List.mem_append_right _ (List.mem_append_left _ (List.mem_of_getElem? (i := 187) rfl))))
theorem kg_19 : k_get 19 = kr_19 := rfl
theorem km_19 : x_okm k_P 19 := k_m_ok (k_cw kg_19 rfl rfl rfl rfl kcw_19) (is := [136]) (by decide +kernel)
set_option maxRecDepth 100000 in
theorem kcw_25 : Cond.code yX3_atEnd cX3_atEnd 1 (some .boolean) ∈ lw_tbl := (List.mem_append_right _ (List.mem_append_right _ (List.mem_append_left _ (List.mem_of_getElem? (i := 194) rfl))))
theorem kg_25 : k_get 25 = kr_25 := rfl
theorem km_25 : x_okm k_P 25 := k_m_ok (k_cw kg_25 rfl rfl rfl rfl kcw_25) (is := [136]) (by decide +kernel)
set_option maxRecDepth 100000 in
theorem kcw_32 : Cond.code yX4_init cX4_init 1 none ∈ lw_tbl := (List.mem_append_right _ (List.mem_append_right _ (List.mem_append_left _ (List.mem_of_getElem? (i := 37) rfl))))
theorem kg_32 : k_get 32 = kr_32 := rfl
theorem km_32 : x_okm k_P 32 := k_m_ok (k_cw kg_32 rfl rfl rfl rfl kcw_32) (is := [141]) (by decide +kernel)
set_option maxRecDepth 100000 in
theorem kcw_41 : Cond.code yX5_init cX5_init 1 none ∈ lw_tbl := (List.mem_append_right _ (List.mem_append_left _ (List.mem_of_getElem? (i := 121) rfl)))
theorem kg_41 : k_get 41 = kr_41 := rfl
theorem km_41 : x_okm k_P 41 := k_m_ok (k_cw kg_41 rfl rfl rfl rfl kcw_41) (is := [137]) (by decide +kernel)
set_option maxRecDepth 100000 in
theorem kcw_42 : Cond.code yX5_takeDraft cX5_takeDraft 3 none ∈ lw_tbl := (List.mem_append_right _ (List.mem_append_right _ (List.mem_append_right _ (List.mem_append_left _ (List.mem_of_getElem? (i := 184) rfl)))))
theorem kg_42 : k_get 42 = kr_42 := rfl
theorem km_42 : x_okm k_P 42 := k_m_ok (k_cw kg_42 rfl rfl rfl rfl kcw_42) (is := [137]) (by decide +kernel)
set_option maxRecDepth 100000 in
theorem kcw_48 : Cond.code yX5_keptCount cX5_keptCount 1 (some .int) ∈ lw_tbl := (List.mem_append_right _ (List.mem_append_right _ (List.mem_append_right _ (List.mem_append_right _ (List.mem_append_left _ (List.mem_of_getElem? (i := 5) rfl))))))
theorem kg_48 : k_get 48 = kr_48 := rfl
theorem km_48 : x_okm k_P 48 := k_m_ok (k_cw kg_48 rfl rfl rfl rfl kcw_48) (is := [137]) (by decide +kernel)
set_option maxRecDepth 100000 in
theorem kcw_49 : Cond.code yX5_sitting cX5_sitting 3 (some .int) ∈ lw_tbl := (List.mem_append_right _ (List.mem_append_right _ (List.mem_append_right _ (List.mem_append_left _ (List.mem_of_getElem? (i := 197) rfl)))))
theorem kg_49 : k_get 49 = kr_49 := rfl
theorem km_49 : x_okm k_P 49 := k_m_ok (k_cw kg_49 rfl rfl rfl rfl kcw_49) (is := [137]) (by decide +kernel)
set_option maxRecDepth 100000 in
theorem kcw_50 : Cond.code yX5_brokenChairs cX5_brokenChairs 3 (some .int) ∈ lw_tbl := (List.mem_append_right _ (List.mem_append_right _ (List.mem_append_right _ (List.mem_append_left _ (List.mem_of_getElem? (i := 222) rfl)))))
theorem kg_50 : k_get 50 = kr_50 := rfl
theorem km_50 : x_okm k_P 50 := k_m_ok (k_cw kg_50 rfl rfl rfl rfl kcw_50) (is := [137]) (by decide +kernel)
set_option maxRecDepth 100000 in
theorem kcw_51 : Cond.code yX5_latestClock cX5_latestClock 3 (some .int) ∈ lw_tbl := (List.mem_append_right _ (List.mem_append_right _ (List.mem_append_right _ (List.mem_append_left _ (List.mem_of_getElem? (i := 226) rfl)))))
theorem kg_51 : k_get 51 = kr_51 := rfl
theorem km_51 : x_okm k_P 51 := k_m_ok (k_cw kg_51 rfl rfl rfl rfl kcw_51) (is := [137]) (by decide +kernel)
set_option maxRecDepth 100000 in
theorem kcw_52 : Cond.code yX5_allAches cX5_allAches 3 (some .int) ∈ lw_tbl := (List.mem_append_right _ (List.mem_append_right _ (List.mem_append_right _ (List.mem_append_left _ (List.mem_of_getElem? (i := 237) rfl)))))
theorem kg_52 : k_get 52 = kr_52 := rfl
theorem km_52 : x_okm k_P 52 := k_m_ok (k_cw kg_52 rfl rfl rfl rfl kcw_52) (is := [137]) (by decide +kernel)
set_option maxRecDepth 100000 in
theorem kcw_61 : Cond.code yX5_goingMinutes cX5_goingMinutes 4 (some .int) ∈ lw_tbl := (List.mem_append_right _ (List.mem_append_right _ (List.mem_append_right _ (List.mem_append_right _ (List.mem_append_left _ (List.mem_of_getElem? (i := 75) rfl))))))
theorem kg_61 : k_get 61 = kr_61 := rfl
theorem km_61 : x_okm k_P 61 := k_m_ok (k_cw kg_61 rfl rfl rfl rfl kcw_61) (is := [137]) (by decide +kernel)
set_option maxRecDepth 100000 in
theorem kcw_67 : Cond.code yX5_keptPart cX5_keptPart 4 (some .int) ∈ lw_tbl := (List.mem_append_right _ (List.mem_append_right _ (List.mem_append_right _ (List.mem_append_right _ (List.mem_append_left _ (List.mem_of_getElem? (i := 218) rfl))))))
theorem kg_67 : k_get 67 = kr_67 := rfl
theorem km_67 : x_okm k_P 67 := k_m_ok (k_cw kg_67 rfl rfl rfl rfl kcw_67) (is := [137]) (by decide +kernel)
set_option maxRecDepth 100000 in
theorem kcw_70 : Cond.code yX5_canMend cX5_canMend 3 (some .boolean) ∈ lw_tbl := (List.mem_append_right _ (List.mem_append_right _ (List.mem_append_right _ (List.mem_append_right _ (List.mem_append_left _ (List.mem_of_getElem? (i := 175) rfl))))))
theorem kg_70 : k_get 70 = kr_70 := rfl
theorem km_70 : x_okm k_P 70 := k_m_ok (k_cw kg_70 rfl rfl rfl rfl kcw_70) (is := [137]) (by decide +kernel)
set_option maxRecDepth 100000 in
theorem kcw_72 : Cond.code yX5_draw cX5_draw 6 (some .int) ∈ lw_tbl := (List.mem_append_right _ (List.mem_append_right _ (List.mem_append_right _ (List.mem_append_right _ (List.mem_append_right _ (List.mem_append_left _ (List.mem_of_getElem? (i := 144) rfl)))))))
theorem kg_72 : k_get 72 = kr_72 := rfl
theorem km_72 : x_okm k_P 72 := k_m_ok (k_cw kg_72 rfl rfl rfl rfl kcw_72) (is := [137]) (by decide +kernel)
set_option maxRecDepth 100000 in
theorem kcw_74 : Cond.code yX5_isImage cX5_isImage 6 (some .boolean) ∈ lw_tbl := (List.mem_append_right _ (List.mem_append_right _ (List.mem_append_right _ (List.mem_append_right _ (List.mem_append_right _ (List.mem_append_left _ (List.mem_of_getElem? (i := 160) rfl)))))))
theorem kg_74 : k_get 74 = kr_74 := rfl
theorem km_74 : x_okm k_P 74 := k_m_ok (k_cw kg_74 rfl rfl rfl rfl kcw_74) (is := [137]) (by decide +kernel)
set_option maxRecDepth 100000 in
theorem kcw_78 : Cond.code yX6_init cX6_init 1 none ∈ lw_tbl := (List.mem_append_right _ (List.mem_append_right _ (List.mem_append_left _ (List.mem_of_getElem? (i := 84) rfl))))
theorem kg_78 : k_get 78 = kr_78 := rfl
theorem km_78 : x_okm k_P 78 := k_m_ok (k_cw kg_78 rfl rfl rfl rfl kcw_78) (is := [143]) (by decide +kernel)
set_option maxRecDepth 100000 in
theorem kcw_81 : Cond.code yX6_isTold cX6_isTold 6 (some .boolean) ∈ lw_tbl := (List.mem_append_right _ (List.mem_append_right _ (List.mem_append_right _ (List.mem_append_right _ (List.mem_append_right _ (List.mem_append_left _ (List.mem_of_getElem? (i := 103) rfl)))))))
theorem kg_81 : k_get 81 = kr_81 := rfl
theorem km_81 : x_okm k_P 81 := k_m_ok (k_cw kg_81 rfl rfl rfl rfl kcw_81) (is := [143]) (by decide +kernel)
set_option maxRecDepth 100000 in
theorem kcw_88 : Cond.code yX7_init cX7_init 1 none ∈ lw_tbl := (List.mem_append_right _ (List.mem_append_left _ (List.mem_of_getElem? (i := 59) rfl)))
theorem kg_88 : k_get 88 = kr_88 := rfl
theorem km_88 : x_okm k_P 88 := k_m_ok (k_cw kg_88 rfl rfl rfl rfl kcw_88) (is := [135]) (by decide +kernel)
set_option maxRecDepth 100000 in
theorem kcw_102 : Cond.code yX8_init cX8_init 1 none ∈ lw_tbl := (List.mem_append_right _ (List.mem_append_left _ (List.mem_of_getElem? (i := 30) rfl)))
theorem kg_102 : k_get 102 = kr_102 := rfl
theorem km_102 : x_okm k_P 102 := k_m_ok (k_cw kg_102 rfl rfl rfl rfl kcw_102) (is := [133]) (by decide +kernel)
set_option maxRecDepth 100000 in
theorem kcw_103 : Cond.code yX8_append cX8_append 3 none ∈ lw_tbl := (List.mem_append_right _ (List.mem_append_right _ (List.mem_append_left _ (List.mem_of_getElem? (i := 164) rfl))))
theorem kg_103 : k_get 103 = kr_103 := rfl
theorem km_103 : x_okm k_P 103 := k_m_ok (k_cw kg_103 rfl rfl rfl rfl kcw_103) (is := [133]) (by decide +kernel)
set_option maxRecDepth 100000 in
theorem kcw_104 : Cond.code yX9_init cX9_init 1 none ∈ lw_tbl := (List.mem_append_right _ (List.mem_append_left _ (List.mem_of_getElem? (i := 127) rfl)))
theorem kg_104 : k_get 104 = kr_104 := rfl
theorem km_104 : x_okm k_P 104 := k_m_ok (k_cw kg_104 rfl rfl rfl rfl kcw_104) (is := [138]) (by decide +kernel)
set_option maxRecDepth 100000 in
theorem kcw_105 : Cond.code yX9_clear cX9_clear 1 none ∈ lw_tbl := (List.mem_append_right _ (List.mem_append_right _ (List.mem_append_left _ (List.mem_of_getElem? (i := 180) rfl))))
theorem kg_105 : k_get 105 = kr_105 := rfl
theorem km_105 : x_okm k_P 105 := k_m_ok (k_cw kg_105 rfl rfl rfl rfl kcw_105) (is := [138]) (by decide +kernel)
set_option maxRecDepth 100000 in
theorem kcw_106 : Cond.code yX9_isRoom cX9_isRoom 2 (some .boolean) ∈ lw_tbl := (List.mem_append_right _ (List.mem_append_right _ (List.mem_append_right _ (List.mem_append_left _ (List.mem_of_getElem? (i := 41) rfl)))))
theorem kg_106 : k_get 106 = kr_106 := rfl
theorem km_106 : x_okm k_P 106 := k_m_ok (k_cw kg_106 rfl rfl rfl rfl kcw_106) (is := [138]) (by decide +kernel)
set_option maxRecDepth 100000 in
theorem kcw_107 : Cond.code yX9_isPerson cX9_isPerson 2 (some .boolean) ∈ lw_tbl := (List.mem_append_right _ (List.mem_append_right _ (List.mem_append_right _ (List.mem_append_left _ (List.mem_of_getElem? (i := 77) rfl)))))
theorem kg_107 : k_get 107 = kr_107 := rfl
theorem km_107 : x_okm k_P 107 := k_m_ok (k_cw kg_107 rfl rfl rfl rfl kcw_107) (is := [138]) (by decide +kernel)
set_option maxRecDepth 100000 in
theorem kcw_117 : Cond.code yX9_wayMinutes cX9_wayMinutes 3 (some .int) ∈ lw_tbl := (List.mem_append_right _ (List.mem_append_right _ (List.mem_append_right _ (List.mem_append_right _ (List.mem_append_left _ (List.mem_of_getElem? (i := 42) rfl))))))
theorem kg_117 : k_get 117 = kr_117 := rfl
theorem km_117 : x_okm k_P 117 := k_m_ok (k_cw kg_117 rfl rfl rfl rfl kcw_117) (is := [138]) (by decide +kernel)
set_option maxRecDepth 100000 in
theorem kcw_120 : Cond.code yX10_init cX10_init 1 none ∈ lw_tbl := (List.mem_append_right _ (List.mem_append_left _ (List.mem_of_getElem? (i := 53) rfl)))
theorem kg_120 : k_get 120 = kr_120 := rfl
theorem km_120 : x_okm k_P 120 := k_m_ok (k_cw kg_120 rfl rfl rfl rfl kcw_120) (is := [134]) (by decide +kernel)
set_option maxRecDepth 100000 in
theorem kcw_121 : Cond.code yX10_read cX10_read 4 (some .int) ∈ lw_tbl := (List.mem_append_right _ (List.mem_append_right _ (List.mem_append_left _ (List.mem_of_getElem? (i := 176) rfl))))
theorem kg_121 : k_get 121 = kr_121 := rfl
theorem km_121 : x_okm k_P 121 := k_m_ok (k_cw kg_121 rfl rfl rfl rfl kcw_121) (is := [134]) (by decide +kernel)
set_option maxRecDepth 100000 in
theorem kcw_135 : Cond.code yX11_init cX11_init 1 none ∈ lw_tbl := (List.mem_append_right _ (List.mem_append_left _ (List.mem_of_getElem? (i := 22) rfl)))
theorem kg_135 : k_get 135 = kr_135 := rfl
theorem km_135 : x_okm k_P 135 := k_m_ok (k_cw kg_135 rfl rfl rfl rfl kcw_135) (is := [132]) (by decide +kernel)
set_option maxRecDepth 100000 in
theorem kcw_136 : Cond.code yX11_feed cX11_feed 6 (some .int) ∈ lw_tbl := (List.mem_append_right _ (List.mem_append_right _ (List.mem_append_left _ (List.mem_of_getElem? (i := 156) rfl))))
theorem kg_136 : k_get 136 = kr_136 := rfl
theorem km_136 : x_okm k_P 136 := k_m_ok (k_cw kg_136 rfl rfl rfl rfl kcw_136) (is := [132]) (by decide +kernel)
set_option maxRecDepth 100000 in
theorem kcw_137 : Cond.code yX11_end cX11_end 2 (some .boolean) ∈ lw_tbl := (List.mem_append_right _ (List.mem_append_right _ (List.mem_append_left _ (List.mem_of_getElem? (i := 168) rfl))))
theorem kg_137 : k_get 137 = kr_137 := rfl
theorem km_137 : x_okm k_P 137 := k_m_ok (k_cw kg_137 rfl rfl rfl rfl kcw_137) (is := [132]) (by decide +kernel)
set_option maxRecDepth 100000 in
theorem kcw_138 : Cond.code yX11_town cX11_town 2 (some .int) ∈ lw_tbl := (List.mem_append_right _ (List.mem_append_right _ (List.mem_append_left _ (List.mem_of_getElem? (i := 172) rfl))))
theorem kg_138 : k_get 138 = kr_138 := rfl
theorem km_138 : x_okm k_P 138 := k_m_ok (k_cw kg_138 rfl rfl rfl rfl kcw_138) (is := [132]) (by decide +kernel)
set_option maxRecDepth 100000 in
theorem kcw_139 : Cond.code yX11_fault cX11_fault 2 (some .int) ∈ lw_tbl := (List.mem_append_right _ (List.mem_append_right _ (List.mem_append_right _ (List.mem_append_left _ (List.mem_of_getElem? (i := 189) rfl)))))
theorem kg_139 : k_get 139 = kr_139 := rfl
theorem km_139 : x_okm k_P 139 := k_m_ok (k_cw kg_139 rfl rfl rfl rfl kcw_139) (is := [132]) (by decide +kernel)
set_option maxRecDepth 100000 in
theorem kcw_140 : Cond.code yX11_has cX11_has 2 (some .int) ∈ lw_tbl := (List.mem_append_right _ (List.mem_append_right _ (List.mem_append_right _ (List.mem_append_left _ (List.mem_of_getElem? (i := 193) rfl)))))
theorem kg_140 : k_get 140 = kr_140 := rfl
theorem km_140 : x_okm k_P 140 := k_m_ok (k_cw kg_140 rfl rfl rfl rfl kcw_140) (is := [132]) (by decide +kernel)
set_option maxRecDepth 100000 in
theorem kcw_141 : Cond.code yX11_letter cX11_letter 4 (some .int) ∈ lw_tbl := (List.mem_append_right _ (List.mem_append_right _ (List.mem_append_right _ (List.mem_append_right _ (List.mem_append_left _ (List.mem_of_getElem? (i := 9) rfl))))))
theorem kg_141 : k_get 141 = kr_141 := rfl
theorem km_141 : x_okm k_P 141 := k_m_ok (k_cw kg_141 rfl rfl rfl rfl kcw_141) (is := [132]) (by decide +kernel)
set_option maxRecDepth 100000 in
theorem kcw_142 : Cond.code yX11_room cX11_room 3 (some .int) ∈ lw_tbl := (List.mem_append_right _ (List.mem_append_right _ (List.mem_append_right _ (List.mem_append_right _ (List.mem_append_left _ (List.mem_of_getElem? (i := 18) rfl))))))
theorem kg_142 : k_get 142 = kr_142 := rfl
theorem km_142 : x_okm k_P 142 := k_m_ok (k_cw kg_142 rfl rfl rfl rfl kcw_142) (is := [132]) (by decide +kernel)
set_option maxRecDepth 100000 in
theorem kcw_143 : Cond.code yX11_way cX11_way 4 (some .int) ∈ lw_tbl := (List.mem_append_right _ (List.mem_append_right _ (List.mem_append_right _ (List.mem_append_right _ (List.mem_append_left _ (List.mem_of_getElem? (i := 38) rfl))))))
theorem kg_143 : k_get 143 = kr_143 := rfl
theorem km_143 : x_okm k_P 143 := k_m_ok (k_cw kg_143 rfl rfl rfl rfl kcw_143) (is := [132]) (by decide +kernel)
set_option maxRecDepth 100000 in
theorem kcw_144 : Cond.code yX11_person cX11_person 3 (some .int) ∈ lw_tbl := (List.mem_append_right _ (List.mem_append_right _ (List.mem_append_right _ (List.mem_append_right _ (List.mem_append_left _ (List.mem_of_getElem? (i := 46) rfl))))))
theorem kg_144 : k_get 144 = kr_144 := rfl
theorem km_144 : x_okm k_P 144 := k_m_ok (k_cw kg_144 rfl rfl rfl rfl kcw_144) (is := [132]) (by decide +kernel)
set_option maxRecDepth 100000 in
theorem kcw_145 : Cond.code yX11_fits cX11_fits 3 (some .int) ∈ lw_tbl := (List.mem_append_right _ (List.mem_append_right _ (List.mem_append_right _ (List.mem_append_right _ (List.mem_append_left _ (List.mem_of_getElem? (i := 60) rfl))))))
theorem kg_145 : k_get 145 = kr_145 := rfl
theorem km_145 : x_okm k_P 145 := k_m_ok (k_cw kg_145 rfl rfl rfl rfl kcw_145) (is := [132]) (by decide +kernel)
set_option maxRecDepth 100000 in
theorem kcw_146 : Cond.code yX11_takes cX11_takes 4 (some .int) ∈ lw_tbl := (List.mem_append_right _ (List.mem_append_right _ (List.mem_append_right _ (List.mem_append_right _ (List.mem_append_left _ (List.mem_of_getElem? (i := 71) rfl))))))
theorem kg_146 : k_get 146 = kr_146 := rfl
theorem km_146 : x_okm k_P 146 := k_m_ok (k_cw kg_146 rfl rfl rfl rfl kcw_146) (is := [132]) (by decide +kernel)
set_option maxRecDepth 100000 in
theorem kcw_147 : Cond.code yX11_go cX11_go 5 (some .int) ∈ lw_tbl := (List.mem_append_right _ (List.mem_append_right _ (List.mem_append_right _ (List.mem_append_right _ (List.mem_append_left _ (List.mem_of_getElem? (i := 122) rfl))))))
theorem kg_147 : k_get 147 = kr_147 := rfl
theorem km_147 : x_okm k_P 147 := k_m_ok (k_cw kg_147 rfl rfl rfl rfl kcw_147) (is := [132]) (by decide +kernel)
set_option maxRecDepth 100000 in
theorem kcw_148 : Cond.code yX11_stay cX11_stay 3 (some .int) ∈ lw_tbl := (List.mem_append_right _ (List.mem_append_right _ (List.mem_append_right _ (List.mem_append_right _ (List.mem_append_left _ (List.mem_of_getElem? (i := 163) rfl))))))
theorem kg_148 : k_get 148 = kr_148 := rfl
theorem km_148 : x_okm k_P 148 := k_m_ok (k_cw kg_148 rfl rfl rfl rfl kcw_148) (is := [132]) (by decide +kernel)
set_option maxRecDepth 100000 in
theorem kcw_149 : Cond.code yX11_mend cX11_mend 3 (some .boolean) ∈ lw_tbl := (List.mem_append_right _ (List.mem_append_right _ (List.mem_append_right _ (List.mem_append_right _ (List.mem_append_left _ (List.mem_of_getElem? (i := 171) rfl))))))
theorem kg_149 : k_get 149 = kr_149 := rfl
theorem km_149 : x_okm k_P 149 := k_m_ok (k_cw kg_149 rfl rfl rfl rfl kcw_149) (is := [132]) (by decide +kernel)
set_option maxRecDepth 100000 in
theorem kcw_150 : Cond.code yX11_days cX11_days 5 (some .int) ∈ lw_tbl := (List.mem_append_right _ (List.mem_append_right _ (List.mem_append_right _ (List.mem_append_right _ (List.mem_append_left _ (List.mem_of_getElem? (i := 183) rfl))))))
theorem kg_150 : k_get 150 = kr_150 := rfl
theorem km_150 : x_okm k_P 150 := k_m_ok (k_cw kg_150 rfl rfl rfl rfl kcw_150) (is := [132]) (by decide +kernel)
set_option maxRecDepth 100000 in
theorem kcw_151 : Cond.code yX11_undo cX11_undo 1 (some .boolean) ∈ lw_tbl := (List.mem_append_right _ (List.mem_append_right _ (List.mem_append_right _ (List.mem_append_right _ (List.mem_append_left _ (List.mem_of_getElem? (i := 201) rfl))))))
theorem kg_151 : k_get 151 = kr_151 := rfl
theorem km_151 : x_okm k_P 151 := k_m_ok (k_cw kg_151 rfl rfl rfl rfl kcw_151) (is := [132]) (by decide +kernel)
set_option maxRecDepth 100000 in
theorem kcw_152 : Cond.code yX11_seed cX11_seed 2 (some .boolean) ∈ lw_tbl := (List.mem_append_right _ (List.mem_append_right _ (List.mem_append_right _ (List.mem_append_right _ (List.mem_append_left _ (List.mem_of_getElem? (i := 210) rfl))))))
theorem kg_152 : k_get 152 = kr_152 := rfl
theorem km_152 : x_okm k_P 152 := k_m_ok (k_cw kg_152 rfl rfl rfl rfl kcw_152) (is := [132]) (by decide +kernel)
set_option maxRecDepth 100000 in
theorem kcw_153 : Cond.code yX11_kept cX11_kept 3 (some .int) ∈ lw_tbl := (List.mem_append_right _ (List.mem_append_right _ (List.mem_append_right _ (List.mem_append_right _ (List.mem_append_left _ (List.mem_of_getElem? (i := 214) rfl))))))
theorem kg_153 : k_get 153 = kr_153 := rfl
theorem km_153 : x_okm k_P 153 := k_m_ok (k_cw kg_153 rfl rfl rfl rfl kcw_153) (is := [132]) (by decide +kernel)
set_option maxRecDepth 100000 in
theorem kcw_154 : Cond.code yX11_route cX11_route 5 (some .int) ∈ lw_tbl := (List.mem_append_right _ (List.mem_append_right _ (List.mem_append_right _ (List.mem_append_right _ (List.mem_append_left _ (List.mem_of_getElem? (i := 222) rfl))))))
theorem kg_154 : k_get 154 = kr_154 := rfl
theorem km_154 : x_okm k_P 154 := k_m_ok (k_cw kg_154 rfl rfl rfl rfl kcw_154) (is := [132]) (by decide +kernel)
set_option maxRecDepth 100000 in
theorem kcw_155 : Cond.code yX11_bearer cX11_bearer 4 (some .int) ∈ lw_tbl := (List.mem_append_right _ (List.mem_append_right _ (List.mem_append_right _ (List.mem_append_right _ (List.mem_append_right _ (List.mem_append_left _ (List.mem_of_getElem? (i := 20) rfl)))))))
theorem kg_155 : k_get 155 = kr_155 := rfl
theorem km_155 : x_okm k_P 155 := k_m_ok (k_cw kg_155 rfl rfl rfl rfl kcw_155) (is := [132]) (by decide +kernel)
set_option maxRecDepth 100000 in
theorem kcw_156 : Cond.code yX11_errand cX11_errand 4 (some .int) ∈ lw_tbl := (List.mem_append_right _ (List.mem_append_right _ (List.mem_append_right _ (List.mem_append_right _ (List.mem_append_right _ (List.mem_append_left _ (List.mem_of_getElem? (i := 32) rfl)))))))
theorem kg_156 : k_get 156 = kr_156 := rfl
theorem km_156 : x_okm k_P 156 := k_m_ok (k_cw kg_156 rfl rfl rfl rfl kcw_156) (is := [132]) (by decide +kernel)
set_option maxRecDepth 100000 in
theorem kcw_157 : Cond.code yX11_along cX11_along 2 (some .int) ∈ lw_tbl := (List.mem_append_right _ (List.mem_append_right _ (List.mem_append_right _ (List.mem_append_right _ (List.mem_append_right _ (List.mem_append_left _ (List.mem_of_getElem? (i := 74) rfl)))))))
theorem kg_157 : k_get 157 = kr_157 := rfl
theorem km_157 : x_okm k_P 157 := k_m_ok (k_cw kg_157 rfl rfl rfl rfl kcw_157) (is := [132]) (by decide +kernel)
set_option maxRecDepth 100000 in
theorem kcw_158 : Cond.code yX11_seated cX11_seated 3 (some .int) ∈ lw_tbl := (List.mem_append_right _ (List.mem_append_right _ (List.mem_append_right _ (List.mem_append_right _ (List.mem_append_right _ (List.mem_append_left _ (List.mem_of_getElem? (i := 78) rfl)))))))
theorem kg_158 : k_get 158 = kr_158 := rfl
theorem km_158 : x_okm k_P 158 := k_m_ok (k_cw kg_158 rfl rfl rfl rfl kcw_158) (is := [132]) (by decide +kernel)
set_option maxRecDepth 100000 in
theorem kcw_159 : Cond.code yX11_standing cX11_standing 3 (some .int) ∈ lw_tbl := (List.mem_append_right _ (List.mem_append_right _ (List.mem_append_right _ (List.mem_append_right _ (List.mem_append_right _ (List.mem_append_left _ (List.mem_of_getElem? (i := 99) rfl)))))))
theorem kg_159 : k_get 159 = kr_159 := rfl
theorem km_159 : x_okm k_P 159 := k_m_ok (k_cw kg_159 rfl rfl rfl rfl kcw_159) (is := [132]) (by decide +kernel)
set_option maxRecDepth 100000 in
theorem kcw_160 : Cond.code yX11_where cX11_where 3 (some .int) ∈ lw_tbl := (List.mem_append_right _ (List.mem_append_right _ (List.mem_append_right _ (List.mem_append_right _ (List.mem_append_right _ (List.mem_append_left _ (List.mem_of_getElem? (i := 136) rfl)))))))
theorem kg_160 : k_get 160 = kr_160 := rfl
theorem km_160 : x_okm k_P 160 := k_m_ok (k_cw kg_160 rfl rfl rfl rfl kcw_160) (is := [132]) (by decide +kernel)
set_option maxRecDepth 100000 in
theorem kcw_161 : Cond.code yX11_image cX11_image 1 (some .int) ∈ lw_tbl := (List.mem_append_right _ (List.mem_append_right _ (List.mem_append_right _ (List.mem_append_right _ (List.mem_append_right _ (List.mem_append_left _ (List.mem_of_getElem? (i := 140) rfl)))))))
theorem kg_161 : k_get 161 = kr_161 := rfl
theorem km_161 : x_okm k_P 161 := k_m_ok (k_cw kg_161 rfl rfl rfl rfl kcw_161) (is := [132]) (by decide +kernel)
set_option maxRecDepth 100000 in
theorem kcw_162 : Cond.code yX11_octet cX11_octet 2 (some .int) ∈ lw_tbl := (List.mem_append_right _ (List.mem_append_right _ (List.mem_append_right _ (List.mem_append_right _ (List.mem_append_right _ (List.mem_append_left _ (List.mem_of_getElem? (i := 152) rfl)))))))
theorem kg_162 : k_get 162 = kr_162 := rfl
theorem km_162 : x_okm k_P 162 := k_m_ok (k_cw kg_162 rfl rfl rfl rfl kcw_162) (is := [132]) (by decide +kernel)
set_option maxRecDepth 100000 in
theorem kcw_163 : Cond.code yX11_on cX11_on 2 (some .boolean) ∈ lw_tbl := (List.mem_append_right _ (List.mem_append_right _ (List.mem_append_right _ (List.mem_append_right _ (List.mem_append_right _ (List.mem_append_left _ (List.mem_of_getElem? (i := 156) rfl)))))))
theorem kg_163 : k_get 163 = kr_163 := rfl
theorem km_163 : x_okm k_P 163 := k_m_ok (k_cw kg_163 rfl rfl rfl rfl kcw_163) (is := [132]) (by decide +kernel)
set_option maxRecDepth 100000 in
theorem kcw_164 : Cond.code yX11_status cX11_status 2 (some .int) ∈ lw_tbl := (List.mem_append_right _ (List.mem_append_right _ (List.mem_append_right _ (List.mem_append_right _ (List.mem_append_right _ (List.mem_append_left _ (List.mem_of_getElem? (i := 175) rfl)))))))
theorem kg_164 : k_get 164 = kr_164 := rfl
theorem km_164 : x_okm k_P 164 := k_m_ok (k_cw kg_164 rfl rfl rfl rfl kcw_164) (is := [132]) (by decide +kernel)
set_option maxRecDepth 100000 in
theorem kcw_165 : Cond.code yX11_refuse cX11_refuse 2 (some .int) ∈ lw_tbl := (List.mem_append_right _ (List.mem_append_right _ (List.mem_append_left _ (List.mem_of_getElem? (i := 160) rfl))))
theorem kg_165 : k_get 165 = kr_165 := rfl
theorem km_165 : x_okm k_P 165 := k_m_ok (k_cw kg_165 rfl rfl rfl rfl kcw_165) (is := [132]) (by decide +kernel)
set_option maxRecDepth 100000 in
theorem kcw_167 : Cond.code yX11_canTravel cX11_canTravel 3 (some .boolean) ∈ lw_tbl := (List.mem_append_right _ (List.mem_append_right _ (List.mem_append_right _ (List.mem_append_right _ (List.mem_append_left _ (List.mem_of_getElem? (i := 226) rfl))))))
theorem kg_167 : k_get 167 = kr_167 := rfl
theorem km_167 : x_okm k_P 167 := k_m_ok (k_cw kg_167 rfl rfl rfl rfl kcw_167) (is := [132]) (by decide +kernel)
set_option maxRecDepth 100000 in
theorem kcw_171 : Cond.code yX12_init cX12_init 2 none ∈ lw_tbl := (List.mem_append_right _ (List.mem_append_right _ (List.mem_append_right _ (List.mem_append_right _ (List.mem_append_right _ (List.mem_append_left _ (List.mem_of_getElem? (i := 180) rfl)))))))
theorem kg_171 : k_get 171 = kr_171 := rfl
theorem km_171 : x_okm k_P 171 := k_m_ok (k_cw kg_171 rfl rfl rfl rfl kcw_171) (is := [144]) (by decide +kernel)
set_option maxRecDepth 100000 in
theorem kcw_172 : Cond.code yX12_is cX12_is 3 (some .boolean) ∈ lw_tbl := (List.mem_append_right _ (List.mem_append_right _ (List.mem_append_right _ (List.mem_append_right _ (List.mem_append_right _ (List.mem_append_right _ (List.mem_append_right _ (List.mem_append_left _ (List.mem_of_getElem? (i := 54) rfl)))))))))
theorem kg_172 : k_get 172 = kr_172 := rfl
theorem km_172 : x_okm k_P 172 := k_m_ok (k_cw kg_172 rfl rfl rfl rfl kcw_172) (is := [144]) (by decide +kernel)
set_option maxRecDepth 100000 in
theorem kcw_173 : Cond.code yX12_put cX12_put 3 none ∈ lw_tbl := (List.mem_append_right _ (List.mem_append_right _ (List.mem_append_right _ (List.mem_append_right _ (List.mem_append_right _ (List.mem_append_right _ (List.mem_append_left _ (List.mem_of_getElem? (i := 196) rfl))))))))
theorem kg_173 : k_get 173 = kr_173 := rfl
theorem km_173 : x_okm k_P 173 := k_m_ok (k_cw kg_173 rfl rfl rfl rfl kcw_173) (is := [144]) (by decide +kernel)
set_option maxRecDepth 100000 in
theorem kcw_174 : Cond.code yX12_feed cX12_feed 6 (some .int) ∈ lw_tbl := (List.mem_append_right _ (List.mem_append_right _ (List.mem_append_right _ (List.mem_append_right _ (List.mem_append_right _ (List.mem_append_right _ (List.mem_append_left _ (List.mem_of_getElem? (i := 188) rfl))))))))
theorem kg_174 : k_get 174 = kr_174 := rfl
theorem km_174 : x_okm k_P 174 := k_m_ok (k_cw kg_174 rfl rfl rfl rfl kcw_174) (is := [144]) (by decide +kernel)
set_option maxRecDepth 100000 in
theorem kcw_175 : Cond.code yX12_end cX12_end 2 (some .boolean) ∈ lw_tbl := (List.mem_append_right _ (List.mem_append_right _ (List.mem_append_right _ (List.mem_append_right _ (List.mem_append_right _ (List.mem_append_right _ (List.mem_append_left _ (List.mem_of_getElem? (i := 200) rfl))))))))
theorem kg_175 : k_get 175 = kr_175 := rfl
theorem km_175 : x_okm k_P 175 := k_m_ok (k_cw kg_175 rfl rfl rfl rfl kcw_175) (is := [144]) (by decide +kernel)
set_option maxRecDepth 100000 in
theorem kcw_180 : Cond.code yX12_ahead cX12_ahead 6 none ∈ lw_tbl := (List.mem_append_right _ (List.mem_append_right _ (List.mem_append_right _ (List.mem_append_right _ (List.mem_append_right _ (List.mem_append_right _ (List.mem_append_left _ (List.mem_of_getElem? (i := 208) rfl))))))))
theorem kg_180 : k_get 180 = kr_180 := rfl
theorem km_180 : x_okm k_P 180 := k_m_ok (k_cw kg_180 rfl rfl rfl rfl kcw_180) (is := [144]) (by decide +kernel)
set_option maxRecDepth 100000 in
theorem kcw_185 : Cond.code yX12_manyOf cX12_manyOf 3 (some .int) ∈ lw_tbl := (List.mem_append_right _ (List.mem_append_right _ (List.mem_append_right _ (List.mem_append_right _ (List.mem_append_right _ (List.mem_append_right _ (List.mem_append_right _ (List.mem_append_left _ (List.mem_of_getElem? (i := 39) rfl)))))))))
theorem kg_185 : k_get 185 = kr_185 := rfl
theorem km_185 : x_okm k_P 185 := k_m_ok (k_cw kg_185 rfl rfl rfl rfl kcw_185) (is := [144]) (by decide +kernel)
set_option maxRecDepth 100000 in
theorem kcw_216 : Cond.code yX12_town cX12_town 2 (some .int) ∈ lw_tbl := (List.mem_append_right _ (List.mem_append_right _ (List.mem_append_right _ (List.mem_append_right _ (List.mem_append_right _ (List.mem_append_right _ (List.mem_append_left _ (List.mem_of_getElem? (i := 204) rfl))))))))
theorem kg_216 : k_get 216 = kr_216 := rfl
theorem km_216 : x_okm k_P 216 := k_m_ok (k_cw kg_216 rfl rfl rfl rfl kcw_216) (is := [144]) (by decide +kernel)
set_option maxRecDepth 100000 in
theorem kcw_217 : Cond.code yX12_fault cX12_fault 2 (some .int) ∈ lw_tbl := (List.mem_append_right _ (List.mem_append_right _ (List.mem_append_right _ (List.mem_append_right _ (List.mem_append_right _ (List.mem_append_right _ (List.mem_append_right _ (List.mem_append_left _ (List.mem_of_getElem? (i := 156) rfl)))))))))
theorem kg_217 : k_get 217 = kr_217 := rfl
theorem km_217 : x_okm k_P 217 := k_m_ok (k_cw kg_217 rfl rfl rfl rfl kcw_217) (is := [144]) (by decide +kernel)
set_option maxRecDepth 100000 in
theorem kcw_218 : Cond.code yX12_refuses cX12_refuses 2 (some .int) ∈ lw_tbl := (List.mem_append_right _ (List.mem_append_right _ (List.mem_append_right _ (List.mem_append_right _ (List.mem_append_right _ (List.mem_append_right _ (List.mem_append_left _ (List.mem_of_getElem? (i := 192) rfl))))))))
theorem kg_218 : k_get 218 = kr_218 := rfl
theorem km_218 : x_okm k_P 218 := k_m_ok (k_cw kg_218 rfl rfl rfl rfl kcw_218) (is := [144]) (by decide +kernel)
set_option maxRecDepth 100000 in
theorem kcw_219 : Cond.code yX12_status cX12_status 2 (some .int) ∈ lw_tbl := (List.mem_append_right _ (List.mem_append_right _ (List.mem_append_right _ (List.mem_append_right _ (List.mem_append_right _ (List.mem_append_right _ (List.mem_append_right _ (List.mem_append_left _ (List.mem_of_getElem? (i := 160) rfl)))))))))
theorem kg_219 : k_get 219 = kr_219 := rfl
theorem km_219 : x_okm k_P 219 := k_m_ok (k_cw kg_219 rfl rfl rfl rfl kcw_219) (is := [144]) (by decide +kernel)
set_option maxRecDepth 100000 in
theorem kcw_220 : Cond.code yX12_isRoom cX12_isRoom 2 (some .boolean) ∈ lw_tbl := (List.mem_append_right _ (List.mem_append_right _ (List.mem_append_right _ (List.mem_append_right _ (List.mem_append_right _ (List.mem_append_right _ (List.mem_append_right _ (List.mem_append_left _ (List.mem_of_getElem? (i := 201) rfl)))))))))
theorem kg_220 : k_get 220 = kr_220 := rfl
theorem km_220 : x_okm k_P 220 := k_m_ok (k_cw kg_220 rfl rfl rfl rfl kcw_220) (is := [144]) (by decide +kernel)
set_option maxRecDepth 100000 in
theorem kcw_221 : Cond.code yX12_isPerson cX12_isPerson 2 (some .boolean) ∈ lw_tbl := (List.mem_append_right _ (List.mem_append_right _ (List.mem_append_right _ (List.mem_append_right _ (List.mem_append_right _ (List.mem_append_right _ (List.mem_append_right _ (List.mem_append_left _ (List.mem_of_getElem? (i := 225) rfl)))))))))
theorem kg_221 : k_get 221 = kr_221 := rfl
theorem km_221 : x_okm k_P 221 := k_m_ok (k_cw kg_221 rfl rfl rfl rfl kcw_221) (is := [144]) (by decide +kernel)
set_option maxRecDepth 100000 in
theorem kcw_224 : Cond.code yX12_copies cX12_copies 6 none ∈ lw_tbl := (List.mem_append_right _ (List.mem_append_right _ (List.mem_append_right _ (List.mem_append_right _ (List.mem_append_right _ (List.mem_append_right _ (List.mem_append_right _ (List.mem_append_left _ (List.mem_of_getElem? (i := 172) rfl)))))))))
theorem kg_224 : k_get 224 = kr_224 := rfl
theorem km_224 : x_okm k_P 224 := k_m_ok (k_cw kg_224 rfl rfl rfl rfl kcw_224) (is := [144]) (by decide +kernel)
set_option maxRecDepth 100000 in
theorem kcw_225 : Cond.code yX12_begin cX12_begin 2 none ∈ lw_tbl := (List.mem_append_right _ (List.mem_append_right _ (List.mem_append_right _ (List.mem_append_right _ (List.mem_append_right _ (List.mem_append_right _ (List.mem_append_right _ (List.mem_append_left _ (List.mem_of_getElem? (i := 152) rfl)))))))))
theorem kg_225 : k_get 225 = kr_225 := rfl
theorem km_225 : x_okm k_P 225 := k_m_ok (k_cw kg_225 rfl rfl rfl rfl kcw_225) (is := [144]) (by decide +kernel)
set_option maxRecDepth 100000 in
theorem kcw_226 : Cond.code yX12_ring cX12_ring 2 (some .int) ∈ lw_tbl := (List.mem_append_right _ (List.mem_append_right _ (List.mem_append_right _ (List.mem_append_right _ (List.mem_append_right _ (List.mem_append_right _ (List.mem_append_right _ (List.mem_append_left _ (List.mem_of_getElem? (i := 168) rfl)))))))))
theorem kg_226 : k_get 226 = kr_226 := rfl
theorem km_226 : x_okm k_P 226 := k_m_ok (k_cw kg_226 rfl rfl rfl rfl kcw_226) (is := [144]) (by decide +kernel)
set_option maxRecDepth 100000 in
theorem kcw_227 : Cond.code yX12_keeps cX12_keeps 1 none ∈ lw_tbl := (List.mem_append_right _ (List.mem_append_right _ (List.mem_append_right _ (List.mem_append_right _ (List.mem_append_right _ (List.mem_append_right _ (List.mem_append_right _ (List.mem_append_right _ (List.mem_of_getElem? (i := 52) rfl)))))))))
theorem kg_227 : k_get 227 = kr_227 := rfl
theorem km_227 : x_okm k_P 227 := k_m_ok (k_cw kg_227 rfl rfl rfl rfl kcw_227) (is := [144]) (by decide +kernel)
set_option maxRecDepth 100000 in
theorem kcw_228 : Cond.code yX12_undo cX12_undo 1 (some .boolean) ∈ lw_tbl := (List.mem_append_right _ (List.mem_append_right _ (List.mem_append_right _ (List.mem_append_right _ (List.mem_append_right _ (List.mem_append_right _ (List.mem_append_right _ (List.mem_append_left _ (List.mem_of_getElem? (i := 164) rfl)))))))))
theorem kg_228 : k_get 228 = kr_228 := rfl
theorem km_228 : x_okm k_P 228 := k_m_ok (k_cw kg_228 rfl rfl rfl rfl kcw_228) (is := [144]) (by decide +kernel)
set_option maxRecDepth 100000 in
theorem kcw_246 : Cond.code yX12_has cX12_has 4 (some .int) ∈ lw_tbl := (List.mem_append_right _ (List.mem_append_right _ (List.mem_append_right _ (List.mem_append_right _ (List.mem_append_right _ (List.mem_append_right _ (List.mem_append_right _ (List.mem_append_left _ (List.mem_of_getElem? (i := 176) rfl)))))))))
theorem kg_246 : k_get 246 = kr_246 := rfl
theorem km_246 : x_okm k_P 246 := k_m_ok (k_cw kg_246 rfl rfl rfl rfl kcw_246) (is := [144]) (by decide +kernel)
set_option maxRecDepth 100000 in
theorem kcw_247 : Cond.code yX12_letter cX12_letter 9 (some .int) ∈ lw_tbl := (List.mem_append_right _ (List.mem_append_right _ (List.mem_append_right _ (List.mem_append_right _ (List.mem_append_right _ (List.mem_append_right _ (List.mem_append_right _ (List.mem_append_left _ (List.mem_of_getElem? (i := 192) rfl)))))))))
theorem kg_247 : k_get 247 = kr_247 := rfl
theorem km_247 : x_okm k_P 247 := k_m_ok (k_cw kg_247 rfl rfl rfl rfl kcw_247) (is := [144]) (by decide +kernel)
set_option maxRecDepth 100000 in
theorem kcw_248 : Cond.code yX12_room cX12_room 5 (some .int) ∈ lw_tbl := (List.mem_append_right _ (List.mem_append_right _ (List.mem_append_right _ (List.mem_append_right _ (List.mem_append_right _ (List.mem_append_right _ (List.mem_append_right _ (List.mem_append_left _ (List.mem_of_getElem? (i := 197) rfl)))))))))
theorem kg_248 : k_get 248 = kr_248 := rfl
theorem km_248 : x_okm k_P 248 := k_m_ok (k_cw kg_248 rfl rfl rfl rfl kcw_248) (is := [144]) (by decide +kernel)
set_option maxRecDepth 100000 in
theorem kcw_249 : Cond.code yX12_way cX12_way 3 (some .int) ∈ lw_tbl := (List.mem_append_right _ (List.mem_append_right _ (List.mem_append_right _ (List.mem_append_right _ (List.mem_append_right _ (List.mem_append_right _ (List.mem_append_right _ (List.mem_append_left _ (List.mem_of_getElem? (i := 213) rfl)))))))))
theorem kg_249 : k_get 249 = kr_249 := rfl
theorem km_249 : x_okm k_P 249 := k_m_ok (k_cw kg_249 rfl rfl rfl rfl kcw_249) (is := [144]) (by decide +kernel)
set_option maxRecDepth 100000 in
theorem kcw_250 : Cond.code yX12_person cX12_person 3 (some .int) ∈ lw_tbl := (List.mem_append_right _ (List.mem_append_right _ (List.mem_append_right _ (List.mem_append_right _ (List.mem_append_right _ (List.mem_append_right _ (List.mem_append_right _ (List.mem_append_left _ (List.mem_of_getElem? (i := 221) rfl)))))))))
theorem kg_250 : k_get 250 = kr_250 := rfl
theorem km_250 : x_okm k_P 250 := k_m_ok (k_cw kg_250 rfl rfl rfl rfl kcw_250) (is := [144]) (by decide +kernel)
set_option maxRecDepth 100000 in
theorem kcw_251 : Cond.code yX12_fits cX12_fits 3 (some .int) ∈ lw_tbl := (List.mem_append_right _ (List.mem_append_right _ (List.mem_append_right _ (List.mem_append_right _ (List.mem_append_right _ (List.mem_append_right _ (List.mem_append_right _ (List.mem_append_left _ (List.mem_of_getElem? (i := 233) rfl)))))))))
theorem kg_251 : k_get 251 = kr_251 := rfl
theorem km_251 : x_okm k_P 251 := k_m_ok (k_cw kg_251 rfl rfl rfl rfl kcw_251) (is := [144]) (by decide +kernel)
set_option maxRecDepth 100000 in
theorem kcw_253 : Cond.code yX12_canGo cX12_canGo 4 (some .boolean) ∈ lw_tbl := (List.mem_append_right _ (List.mem_append_right _ (List.mem_append_right _ (List.mem_append_right _ (List.mem_append_right _ (List.mem_append_right _ (List.mem_append_right _ (List.mem_append_right _ (List.mem_of_getElem? (i := 9) rfl)))))))))
theorem kg_253 : k_get 253 = kr_253 := rfl
theorem km_253 : x_okm k_P 253 := k_m_ok (k_cw kg_253 rfl rfl rfl rfl kcw_253) (is := [144]) (by decide +kernel)
set_option maxRecDepth 100000 in
theorem kcw_255 : Cond.code yX12_takes cX12_takes 4 (some .int) ∈ lw_tbl := (List.mem_append_right _ (List.mem_append_right _ (List.mem_append_right _ (List.mem_append_right _ (List.mem_append_right _ (List.mem_append_right _ (List.mem_append_right _ (List.mem_append_right _ (List.mem_of_getElem? (i := 5) rfl)))))))))
theorem kg_255 : k_get 255 = kr_255 := rfl
theorem km_255 : x_okm k_P 255 := k_m_ok (k_cw kg_255 rfl rfl rfl rfl kcw_255) (is := [144]) (by decide +kernel)
set_option maxRecDepth 100000 in
theorem kcw_260 : Cond.code yX12_go cX12_go 4 (some .int) ∈ lw_tbl := (List.mem_append_right _ (List.mem_append_right _ (List.mem_append_right _ (List.mem_append_right _ (List.mem_append_right _ (List.mem_append_right _ (List.mem_append_right _ (List.mem_append_right _ (List.mem_of_getElem? (i := 48) rfl)))))))))
theorem kg_260 : k_get 260 = kr_260 := rfl
theorem km_260 : x_okm k_P 260 := k_m_ok (k_cw kg_260 rfl rfl rfl rfl kcw_260) (is := [144]) (by decide +kernel)
set_option maxRecDepth 100000 in
theorem kcw_262 : Cond.code yX12_stay cX12_stay 3 (some .int) ∈ lw_tbl := (List.mem_append_right _ (List.mem_append_right _ (List.mem_append_right _ (List.mem_append_right _ (List.mem_append_right _ (List.mem_append_right _ (List.mem_append_right _ (List.mem_append_right _ (List.mem_of_getElem? (i := 77) rfl)))))))))
theorem kg_262 : k_get 262 = kr_262 := rfl
theorem km_262 : x_okm k_P 262 := k_m_ok (k_cw kg_262 rfl rfl rfl rfl kcw_262) (is := [144]) (by decide +kernel)
set_option maxRecDepth 100000 in
theorem kcw_263 : Cond.code yX12_mend cX12_mend 4 (some .boolean) ∈ lw_tbl := (List.mem_append_right _ (List.mem_append_right _ (List.mem_append_right _ (List.mem_append_right _ (List.mem_append_right _ (List.mem_append_right _ (List.mem_append_right _ (List.mem_append_right _ (List.mem_of_getElem? (i := 89) rfl)))))))))
theorem kg_263 : k_get 263 = kr_263 := rfl
theorem km_263 : x_okm k_P 263 := k_m_ok (k_cw kg_263 rfl rfl rfl rfl kcw_263) (is := [144]) (by decide +kernel)
set_option maxRecDepth 100000 in
theorem kcw_266 : Cond.code yX12_days cX12_days 5 (some .int) ∈ lw_tbl := (List.mem_append_right _ (List.mem_append_right _ (List.mem_append_right _ (List.mem_append_right _ (List.mem_append_right _ (List.mem_append_right _ (List.mem_append_right _ (List.mem_append_right _ (List.mem_of_getElem? (i := 93) rfl)))))))))
theorem kg_266 : k_get 266 = kr_266 := rfl
theorem km_266 : x_okm k_P 266 := k_m_ok (k_cw kg_266 rfl rfl rfl rfl kcw_266) (is := [144]) (by decide +kernel)
set_option maxRecDepth 100000 in
theorem kcw_267 : Cond.code yX12_seed cX12_seed 2 (some .boolean) ∈ lw_tbl := (List.mem_append_right _ (List.mem_append_right _ (List.mem_append_right _ (List.mem_append_right _ (List.mem_append_right _ (List.mem_append_right _ (List.mem_append_right _ (List.mem_append_right _ (List.mem_of_getElem? (i := 105) rfl)))))))))
theorem kg_267 : k_get 267 = kr_267 := rfl
theorem km_267 : x_okm k_P 267 := k_m_ok (k_cw kg_267 rfl rfl rfl rfl kcw_267) (is := [144]) (by decide +kernel)
set_option maxRecDepth 100000 in
theorem kcw_268 : Cond.code yX12_kept cX12_kept 3 (some .int) ∈ lw_tbl := (List.mem_append_right _ (List.mem_append_right _ (List.mem_append_right _ (List.mem_append_right _ (List.mem_append_right _ (List.mem_append_right _ (List.mem_append_right _ (List.mem_append_right _ (List.mem_of_getElem? (i := 109) rfl)))))))))
theorem kg_268 : k_get 268 = kr_268 := rfl
theorem km_268 : x_okm k_P 268 := k_m_ok (k_cw kg_268 rfl rfl rfl rfl kcw_268) (is := [144]) (by decide +kernel)
set_option maxRecDepth 100000 in
theorem kcw_272 : Cond.code yX12_routing cX12_routing 9 (some .int) ∈ lw_tbl := (List.mem_append_right _ (List.mem_append_right _ (List.mem_append_right _ (List.mem_append_right _ (List.mem_append_right _ (List.mem_append_right _ (List.mem_append_right _ (List.mem_append_right _ (List.mem_of_getElem? (i := 117) rfl)))))))))
theorem kg_272 : k_get 272 = kr_272 := rfl
theorem km_272 : x_okm k_P 272 := k_m_ok (k_cw kg_272 rfl rfl rfl rfl kcw_272) (is := [144]) (by decide +kernel)
set_option maxRecDepth 100000 in
theorem kcw_273 : Cond.code yX12_route cX12_route 5 (some .int) ∈ lw_tbl := (List.mem_append_right _ (List.mem_append_right _ (List.mem_append_right _ (List.mem_append_right _ (List.mem_append_right _ (List.mem_append_right _ (List.mem_append_right _ (List.mem_append_right _ (List.mem_of_getElem? (i := 113) rfl)))))))))
theorem kg_273 : k_get 273 = kr_273 := rfl
theorem km_273 : x_okm k_P 273 := k_m_ok (k_cw kg_273 rfl rfl rfl rfl kcw_273) (is := [144]) (by decide +kernel)
set_option maxRecDepth 100000 in
theorem kcw_274 : Cond.code yX12_bearer cX12_bearer 4 (some .int) ∈ lw_tbl := (List.mem_append_right _ (List.mem_append_right _ (List.mem_append_right _ (List.mem_append_right _ (List.mem_append_right _ (List.mem_append_right _ (List.mem_append_right _ (List.mem_append_right _ (List.mem_of_getElem? (i := 134) rfl)))))))))
theorem kg_274 : k_get 274 = kr_274 := rfl
theorem km_274 : x_okm k_P 274 := k_m_ok (k_cw kg_274 rfl rfl rfl rfl kcw_274) (is := [144]) (by decide +kernel)
set_option maxRecDepth 100000 in
theorem kcw_276 : Cond.code yX12_isErrand cX12_isErrand 5 (some .boolean) ∈ lw_tbl := (List.mem_append_right _ (List.mem_append_right _ (List.mem_append_right _ (List.mem_append_right _ (List.mem_append_right _ (List.mem_append_right _ (List.mem_append_right _ (List.mem_append_right _ (List.mem_of_getElem? (i := 142) rfl)))))))))
theorem kg_276 : k_get 276 = kr_276 := rfl
theorem km_276 : x_okm k_P 276 := k_m_ok (k_cw kg_276 rfl rfl rfl rfl kcw_276) (is := [144]) (by decide +kernel)
set_option maxRecDepth 100000 in
theorem kcw_277 : Cond.code yX12_errand cX12_errand 8 (some .int) ∈ lw_tbl := (List.mem_append_right _ (List.mem_append_right _ (List.mem_append_right _ (List.mem_append_right _ (List.mem_append_right _ (List.mem_append_right _ (List.mem_append_right _ (List.mem_append_right _ (List.mem_of_getElem? (i := 138) rfl)))))))))
theorem kg_277 : k_get 277 = kr_277 := rfl
theorem km_277 : x_okm k_P 277 := k_m_ok (k_cw kg_277 rfl rfl rfl rfl kcw_277) (is := [144]) (by decide +kernel)
set_option maxRecDepth 100000 in
theorem kcw_278 : Cond.code yX12_along cX12_along 2 (some .int) ∈ lw_tbl := (List.mem_append_right _ (List.mem_append_right _ (List.mem_append_right _ (List.mem_append_right _ (List.mem_append_right _ (List.mem_append_right _ (List.mem_append_right _ (List.mem_append_right _ (List.mem_of_getElem? (i := 153) rfl)))))))))
theorem kg_278 : k_get 278 = kr_278 := rfl
theorem km_278 : x_okm k_P 278 := k_m_ok (k_cw kg_278 rfl rfl rfl rfl kcw_278) (is := [144]) (by decide +kernel)
set_option maxRecDepth 100000 in
theorem kcw_280 : Cond.code yX12_seated cX12_seated 5 (some .int) ∈ lw_tbl := (List.mem_append_right _ (List.mem_append_right _ (List.mem_append_right _ (List.mem_append_right _ (List.mem_append_right _ (List.mem_append_right _ (List.mem_append_right _ (List.mem_append_right _ (List.mem_of_getElem? (i := 157) rfl)))))))))
theorem kg_280 : k_get 280 = kr_280 := rfl
theorem km_280 : x_okm k_P 280 := k_m_ok (k_cw kg_280 rfl rfl rfl rfl kcw_280) (is := [144]) (by decide +kernel)
set_option maxRecDepth 100000 in
theorem kcw_283 : Cond.code yX12_isStanding cX12_isStanding 4 (some .boolean) ∈ lw_tbl := (List.mem_append_right _ (List.mem_append_right _ (List.mem_append_right _ (List.mem_append_right _ (List.mem_append_right _ (List.mem_append_right _ (List.mem_append_right _ (List.mem_append_right _ (List.mem_of_getElem? (i := 172) rfl)))))))))
theorem kg_283 : k_get 283 = kr_283 := rfl
theorem km_283 : x_okm k_P 283 := k_m_ok (k_cw kg_283 rfl rfl rfl rfl kcw_283) (is := [144]) (by decide +kernel)
set_option maxRecDepth 100000 in
theorem kcw_284 : Cond.code yX12_standing cX12_standing 4 (some .int) ∈ lw_tbl := (List.mem_append_right _ (List.mem_append_right _ (List.mem_append_right _ (List.mem_append_right _ (List.mem_append_right _ (List.mem_append_right _ (List.mem_append_right _ (List.mem_append_right _ (List.mem_of_getElem? (i := 168) rfl)))))))))
theorem kg_284 : k_get 284 = kr_284 := rfl
theorem km_284 : x_okm k_P 284 := k_m_ok (k_cw kg_284 rfl rfl rfl rfl kcw_284) (is := [144]) (by decide +kernel)
set_option maxRecDepth 100000 in
theorem kcw_285 : Cond.code yX12_where cX12_where 3 (some .int) ∈ lw_tbl := (List.mem_append_right _ (List.mem_append_right _ (List.mem_append_right _ (List.mem_append_right _ (List.mem_append_right _ (List.mem_append_right _ (List.mem_append_right _ (List.mem_append_right _ (List.mem_of_getElem? (i := 184) rfl)))))))))
theorem kg_285 : k_get 285 = kr_285 := rfl
theorem km_285 : x_okm k_P 285 := k_m_ok (k_cw kg_285 rfl rfl rfl rfl kcw_285) (is := [144]) (by decide +kernel)
set_option maxRecDepth 100000 in
theorem kcw_286 : Cond.code yX12_writes cX12_writes 2 none ∈ lw_tbl := (List.mem_append_right _ (List.mem_append_right _ (List.mem_append_right _ (List.mem_append_right _ (List.mem_append_right _ (List.mem_append_right _ (List.mem_append_right _ (List.mem_append_right _ (List.mem_of_getElem? (i := 192) rfl)))))))))
theorem kg_286 : k_get 286 = kr_286 := rfl
theorem km_286 : x_okm k_P 286 := k_m_ok (k_cw kg_286 rfl rfl rfl rfl kcw_286) (is := [144]) (by decide +kernel)
set_option maxRecDepth 100000 in
theorem kcw_288 : Cond.code yX12_image cX12_image 3 (some .int) ∈ lw_tbl := (List.mem_append_right _ (List.mem_append_right _ (List.mem_append_right _ (List.mem_append_right _ (List.mem_append_right _ (List.mem_append_right _ (List.mem_append_right _ (List.mem_append_right _ (List.mem_of_getElem? (i := 188) rfl)))))))))
theorem kg_288 : k_get 288 = kr_288 := rfl
theorem km_288 : x_okm k_P 288 := k_m_ok (k_cw kg_288 rfl rfl rfl rfl kcw_288) (is := [144]) (by decide +kernel)
set_option maxRecDepth 100000 in
theorem kcw_289 : Cond.code yX12_octet cX12_octet 2 (some .int) ∈ lw_tbl := (List.mem_append_right _ (List.mem_append_right _ (List.mem_append_right _ (List.mem_append_right _ (List.mem_append_right _ (List.mem_append_right _ (List.mem_append_right _ (List.mem_append_right _ (List.mem_of_getElem? (i := 200) rfl)))))))))
theorem kg_289 : k_get 289 = kr_289 := rfl
theorem km_289 : x_okm k_P 289 := k_m_ok (k_cw kg_289 rfl rfl rfl rfl kcw_289) (is := [144]) (by decide +kernel)
set_option maxRecDepth 100000 in
theorem kcw_292 : Cond.code yX12_comesOn cX12_comesOn 6 (some .boolean) ∈ lw_tbl := (List.mem_append_right _ (List.mem_append_right _ (List.mem_append_right _ (List.mem_append_right _ (List.mem_append_right _ (List.mem_append_right _ (List.mem_append_right _ (List.mem_append_right _ (List.mem_of_getElem? (i := 208) rfl)))))))))
theorem kg_292 : k_get 292 = kr_292 := rfl
theorem km_292 : x_okm k_P 292 := k_m_ok (k_cw kg_292 rfl rfl rfl rfl kcw_292) (is := [144]) (by decide +kernel)
set_option maxRecDepth 100000 in
theorem kcw_293 : Cond.code yX12_on cX12_on 2 (some .boolean) ∈ lw_tbl := (List.mem_append_right _ (List.mem_append_right _ (List.mem_append_right _ (List.mem_append_right _ (List.mem_append_right _ (List.mem_append_right _ (List.mem_append_right _ (List.mem_append_right _ (List.mem_of_getElem? (i := 204) rfl)))))))))
theorem kg_293 : k_get 293 = kr_293 := rfl
theorem km_293 : x_okm k_P 293 := k_m_ok (k_cw kg_293 rfl rfl rfl rfl kcw_293) (is := [144]) (by decide +kernel)
set_option maxRecDepth 100000 in
theorem kcw_301 : Cond.code yJ7_fill_53178 cJ7_fill_53178 4 none ∈ lw_tbl := (List.mem_append_right _ (List.mem_append_right _ (List.mem_append_left _ (List.mem_of_getElem? (i := 183) rfl))))
theorem kg_301 : k_get 301 = kr_301 := rfl
theorem km_301 : x_okm k_P 301 := k_m_ok (k_cw kg_301 rfl rfl rfl rfl kcw_301) (is := [145]) (by decide +kernel)
theorem k_okm : ∀ j ∈ k_used, x_okm k_P j := List.forall_mem_cons.mpr ⟨km_1, List.forall_mem_cons.mpr ⟨km_2, List.forall_mem_cons.mpr ⟨km_9, List.forall_mem_cons.mpr ⟨km_15, List.forall_mem_cons.mpr ⟨km_16, List.forall_mem_cons.mpr ⟨km_18, List.forall_mem_cons.mpr ⟨km_19, List.forall_mem_cons.mpr ⟨km_25, List.forall_mem_cons.mpr ⟨km_32, List.forall_mem_cons.mpr ⟨km_41, List.forall_mem_cons.mpr ⟨km_42, List.forall_mem_cons.mpr ⟨km_48, List.forall_mem_cons.mpr ⟨km_49, List.forall_mem_cons.mpr ⟨km_50, List.forall_mem_cons.mpr ⟨km_51, List.forall_mem_cons.mpr ⟨km_52, List.forall_mem_cons.mpr ⟨km_61, List.forall_mem_cons.mpr ⟨km_67, List.forall_mem_cons.mpr ⟨km_70, List.forall_mem_cons.mpr ⟨km_72, List.forall_mem_cons.mpr ⟨km_74, List.forall_mem_cons.mpr ⟨km_78, List.forall_mem_cons.mpr ⟨km_81, List.forall_mem_cons.mpr ⟨km_88, List.forall_mem_cons.mpr ⟨km_102, List.forall_mem_cons.mpr ⟨km_103, List.forall_mem_cons.mpr ⟨km_104, List.forall_mem_cons.mpr ⟨km_105, List.forall_mem_cons.mpr ⟨km_106, List.forall_mem_cons.mpr ⟨km_107, List.forall_mem_cons.mpr ⟨km_117, List.forall_mem_cons.mpr ⟨km_120, List.forall_mem_cons.mpr ⟨km_121, List.forall_mem_cons.mpr ⟨km_135, List.forall_mem_cons.mpr ⟨km_136, List.forall_mem_cons.mpr ⟨km_137, List.forall_mem_cons.mpr ⟨km_138, List.forall_mem_cons.mpr ⟨km_139, List.forall_mem_cons.mpr ⟨km_140, List.forall_mem_cons.mpr ⟨km_141, List.forall_mem_cons.mpr ⟨km_142, List.forall_mem_cons.mpr ⟨km_143, List.forall_mem_cons.mpr ⟨km_144, List.forall_mem_cons.mpr ⟨km_145, List.forall_mem_cons.mpr ⟨km_146, List.forall_mem_cons.mpr ⟨km_147, List.forall_mem_cons.mpr ⟨km_148, List.forall_mem_cons.mpr ⟨km_149, List.forall_mem_cons.mpr ⟨km_150, List.forall_mem_cons.mpr ⟨km_151, List.forall_mem_cons.mpr ⟨km_152, List.forall_mem_cons.mpr ⟨km_153, List.forall_mem_cons.mpr ⟨km_154, List.forall_mem_cons.mpr ⟨km_155, List.forall_mem_cons.mpr ⟨km_156, List.forall_mem_cons.mpr ⟨km_157, List.forall_mem_cons.mpr ⟨km_158, List.forall_mem_cons.mpr ⟨km_159, List.forall_mem_cons.mpr ⟨km_160, List.forall_mem_cons.mpr ⟨km_161, List.forall_mem_cons.mpr ⟨km_162, List.forall_mem_cons.mpr ⟨km_163, List.forall_mem_cons.mpr ⟨km_164, List.forall_mem_cons.mpr ⟨km_165, List.forall_mem_cons.mpr ⟨km_167, List.forall_mem_cons.mpr ⟨km_171, List.forall_mem_cons.mpr ⟨km_172, List.forall_mem_cons.mpr ⟨km_173, List.forall_mem_cons.mpr ⟨km_174, List.forall_mem_cons.mpr ⟨km_175, List.forall_mem_cons.mpr ⟨km_180, List.forall_mem_cons.mpr ⟨km_185, List.forall_mem_cons.mpr ⟨km_216, List.forall_mem_cons.mpr ⟨km_217, List.forall_mem_cons.mpr ⟨km_218, List.forall_mem_cons.mpr ⟨km_219, List.forall_mem_cons.mpr ⟨km_220, List.forall_mem_cons.mpr ⟨km_221, List.forall_mem_cons.mpr ⟨km_224, List.forall_mem_cons.mpr ⟨km_225, List.forall_mem_cons.mpr ⟨km_226, List.forall_mem_cons.mpr ⟨km_227, List.forall_mem_cons.mpr ⟨km_228, List.forall_mem_cons.mpr ⟨km_246, List.forall_mem_cons.mpr ⟨km_247, List.forall_mem_cons.mpr ⟨km_248, List.forall_mem_cons.mpr ⟨km_249, List.forall_mem_cons.mpr ⟨km_250, List.forall_mem_cons.mpr ⟨km_251, List.forall_mem_cons.mpr ⟨km_253, List.forall_mem_cons.mpr ⟨km_255, List.forall_mem_cons.mpr ⟨km_260, List.forall_mem_cons.mpr ⟨km_262, List.forall_mem_cons.mpr ⟨km_263, List.forall_mem_cons.mpr ⟨km_266, List.forall_mem_cons.mpr ⟨km_267, List.forall_mem_cons.mpr ⟨km_268, List.forall_mem_cons.mpr ⟨km_272, List.forall_mem_cons.mpr ⟨km_273, List.forall_mem_cons.mpr ⟨km_274, List.forall_mem_cons.mpr ⟨km_276, List.forall_mem_cons.mpr ⟨km_277, List.forall_mem_cons.mpr ⟨km_278, List.forall_mem_cons.mpr ⟨km_280, List.forall_mem_cons.mpr ⟨km_283, List.forall_mem_cons.mpr ⟨km_284, List.forall_mem_cons.mpr ⟨km_285, List.forall_mem_cons.mpr ⟨km_286, List.forall_mem_cons.mpr ⟨km_288, List.forall_mem_cons.mpr ⟨km_289, List.forall_mem_cons.mpr ⟨km_292, List.forall_mem_cons.mpr ⟨km_293, List.forall_mem_cons.mpr ⟨km_301, fun _ h => absurd h List.not_mem_nil⟩⟩⟩⟩⟩⟩⟩⟩⟩⟩⟩⟩⟩⟩⟩⟩⟩⟩⟩⟩⟩⟩⟩⟩⟩⟩⟩⟩⟩⟩⟩⟩⟩⟩⟩⟩⟩⟩⟩⟩⟩⟩⟩⟩⟩⟩⟩⟩⟩⟩⟩⟩⟩⟩⟩⟩⟩⟩⟩⟩⟩⟩⟩⟩⟩⟩⟩⟩⟩⟩⟩⟩⟩⟩⟩⟩⟩⟩⟩⟩⟩⟩⟩⟩⟩⟩⟩⟩⟩⟩⟩⟩⟩⟩⟩⟩⟩⟩⟩⟩⟩⟩⟩⟩⟩⟩⟩⟩⟩⟩⟩⟩⟩
theorem kd_0_0 : k_decL cL_law ((kc_0.drop 0).take 4) = true := by decide +kernel
theorem kd_0_4 : k_decL cL_law ((kc_0.drop 4).take 4) = true := by decide +kernel
theorem kd_0_8 : k_decL cL_law ((kc_0.drop 8).take 4) = true := by decide +kernel
theorem kd_0_12 : k_decL cL_law ((kc_0.drop 12).take 4) = true := by decide +kernel
theorem kd_0_16 : k_decL cL_law ((kc_0.drop 16).take 4) = true := by decide +kernel
theorem kd_0_20 : k_decL cL_law ((kc_0.drop 20).take 4) = true := by decide +kernel
theorem kd_0_24 : k_decL cL_law ((kc_0.drop 24).take 4) = true := by decide +kernel
theorem kd_0_28 : k_decL cL_law ((kc_0.drop 28).take 4) = true := by decide +kernel
theorem kd_0_32 : k_decL cL_law ((kc_0.drop 32).take 4) = true := by decide +kernel
theorem kd_0_36 : k_decL cL_law ((kc_0.drop 36).take 4) = true := by decide +kernel
theorem kd_0_40 : k_decL cL_law ((kc_0.drop 40).take 4) = true := by decide +kernel
theorem kd_0_44 : k_decL cL_law ((kc_0.drop 44).take 4) = true := by decide +kernel
theorem kd_0_48 : k_decL cL_law ((kc_0.drop 48).take 4) = true := by decide +kernel
theorem kd_0_52 : k_decL cL_law ((kc_0.drop 52).take 4) = true := by decide +kernel
theorem kd_0_56 : k_decL cL_law ((kc_0.drop 56).take 4) = true := by decide +kernel
theorem kd_0_60 : k_decL cL_law ((kc_0.drop 60).take 4) = true := by decide +kernel
theorem kd_0_64 : k_decL cL_law ((kc_0.drop 64).take 4) = true := by decide +kernel
theorem kx_0 : kc_0 = (kc_0.drop 0).take 4 ++ ((kc_0.drop 4).take 4 ++ ((kc_0.drop 8).take 4 ++ ((kc_0.drop 12).take 4 ++ ((kc_0.drop 16).take 4 ++ ((kc_0.drop 20).take 4 ++ ((kc_0.drop 24).take 4 ++ ((kc_0.drop 28).take 4 ++ ((kc_0.drop 32).take 4 ++ ((kc_0.drop 36).take 4 ++ ((kc_0.drop 40).take 4 ++ ((kc_0.drop 44).take 4 ++ ((kc_0.drop 48).take 4 ++ ((kc_0.drop 52).take 4 ++ ((kc_0.drop 56).take 4 ++ ((kc_0.drop 60).take 4 ++ ((kc_0.drop 64).take 4)))))))))))))))) := rfl
theorem kd_0 : ∀ ch ∈ kr_0.1, ∀ q ∈ ch, decode kr_0.2.2.2.2.1 q.1 = .ok q.2 := by
  show ∀ ch ∈ kc_0, ∀ q ∈ ch, decode cL_law q.1 = .ok q.2
  rw [kx_0]
  exact (k_dec_app (k_decL_ok kd_0_0) (k_dec_app (k_decL_ok kd_0_4) (k_dec_app (k_decL_ok kd_0_8) (k_dec_app (k_decL_ok kd_0_12) (k_dec_app (k_decL_ok kd_0_16) (k_dec_app (k_decL_ok kd_0_20) (k_dec_app (k_decL_ok kd_0_24) (k_dec_app (k_decL_ok kd_0_28) (k_dec_app (k_decL_ok kd_0_32) (k_dec_app (k_decL_ok kd_0_36) (k_dec_app (k_decL_ok kd_0_40) (k_dec_app (k_decL_ok kd_0_44) (k_dec_app (k_decL_ok kd_0_48) (k_dec_app (k_decL_ok kd_0_52) (k_dec_app (k_decL_ok kd_0_56) (k_dec_app (k_decL_ok kd_0_60) (k_decL_ok kd_0_64)))))))))))))))))
theorem ke_0 : k_ents kr_0.2.2.2.1.cls kr_0.2.1 [[149, 150, 132], [151, 152], [1267, 1268, 144], [1269, 1270], [524, 525, 526], [1516, 1517, 1518], [536, 537, 538], [1528, 1529, 1530], [540, 541, 542], [1532, 1533, 1534], [797, 798, 799], [1724, 1725, 1726], [801, 802, 803], [1744, 1745, 1746], [857, 858, 859], [1760, 1761, 1762], [866, 867, 868], [1765, 1766, 1767], [886, 887, 888], [1781, 1782, 1783], [894, 895, 896], [1789, 1790, 1791], [908, 909, 910], [1801, 1802, 1803], [919, 920, 921], [1813, 1814, 1815], [970, 971, 972], [1856, 1857, 1858], [1011, 1012, 1013], [1885, 1886, 1887], [1019, 1020, 1021], [1897, 1898, 1899], [1031, 1032, 1033], [1901, 1902, 1903], [1049, 1050, 1051], [1732, 1733, 1734], [1058, 1059, 1060], [1913, 1914, 1915], [1062, 1063, 1064], [1917, 1918, 1919], [1070, 1071, 1072], [1921, 1922, 1923], [1108, 1109, 1110], [1942, 1943, 1944], [1120, 1121, 1122], [1946, 1947, 1948], [1162, 1163, 1164], [1961, 1962, 1963], [1166, 1167, 1168], [1965, 1966, 1967], [1187, 1188, 1189], [1976, 1977, 1978], [1224, 1225, 1226], [1992, 1993, 1994], [1228, 1229, 1230], [1996, 1997, 1998], [1240, 1241, 1242], [2008, 2009, 2010], [1244, 1245, 1246], [2012, 2013, 2014], [1263, 1264, 1265], [1728, 1729, 1730]] = true := by decide +kernel
theorem ko_0 : k_recP kr_0 := k_rec_ok k_okm kd_0 ke_0 (by decide +kernel)
theorem kd_1_0 : k_decL cX0_init ((kc_1.drop 0).take 8) = true := by decide +kernel
theorem kx_1 : kc_1 = (kc_1.drop 0).take 8 := rfl
theorem kd_1 : ∀ ch ∈ kr_1.1, ∀ q ∈ ch, decode kr_1.2.2.2.2.1 q.1 = .ok q.2 := by
  show ∀ ch ∈ kc_1, ∀ q ∈ ch, decode cX0_init q.1 = .ok q.2
  rw [kx_1]
  exact (k_decL_ok kd_1_0)
theorem ke_1 : k_ents kr_1.2.2.2.1.cls kr_1.2.1 [[438, 155, 156], [439], [440], [442]] = true := by decide +kernel
theorem ko_1 : k_recP kr_1 := k_rec_ok k_okm kd_1 ke_1 (by decide +kernel)
theorem kd_2_0 : k_decL cX0_isTold ((kc_2.drop 0).take 8) = true := by decide +kernel
theorem kx_2 : kc_2 = (kc_2.drop 0).take 8 := rfl
theorem kd_2 : ∀ ch ∈ kr_2.1, ∀ q ∈ ch, decode kr_2.2.2.2.2.1 q.1 = .ok q.2 := by
  show ∀ ch ∈ kc_2, ∀ q ∈ ch, decode cX0_isTold q.1 = .ok q.2
  rw [kx_2]
  exact (k_decL_ok kd_2_0)
theorem ke_2 : k_ents kr_2.2.2.2.1.cls kr_2.2.1 [[169], [369], [1128, 686, 687], [165], [1130, 891, 892]] = true := by decide +kernel
theorem ko_2 : k_recP kr_2 := k_rec_ok k_okm kd_2 ke_2 (by decide +kernel)
theorem kd_9_0 : k_decL cX1_init ((kc_9.drop 0).take 8) = true := by decide +kernel
theorem kx_9 : kc_9 = (kc_9.drop 0).take 8 := rfl
theorem kd_9 : ∀ ch ∈ kr_9.1, ∀ q ∈ ch, decode kr_9.2.2.2.2.1 q.1 = .ok q.2 := by
  show ∀ ch ∈ kc_9, ∀ q ∈ ch, decode cX1_init q.1 = .ok q.2
  rw [kx_9]
  exact (k_decL_ok kd_9_0)
theorem ke_9 : k_ents kr_9.2.2.2.1.cls kr_9.2.1 [[265, 155, 156], [266], [267], [268]] = true := by decide +kernel
theorem ko_9 : k_recP kr_9 := k_rec_ok k_okm kd_9 ke_9 (by decide +kernel)
theorem kd_15_0 : k_decL cX2_init ((kc_15.drop 0).take 8) = true := by decide +kernel
theorem kx_15 : kc_15 = (kc_15.drop 0).take 8 := rfl
theorem kd_15 : ∀ ch ∈ kr_15.1, ∀ q ∈ ch, decode kr_15.2.2.2.2.1 q.1 = .ok q.2 := by
  show ∀ ch ∈ kc_15, ∀ q ∈ ch, decode cX2_init q.1 = .ok q.2
  rw [kx_15]
  exact (k_decL_ok kd_15_0)
theorem ke_15 : k_ents kr_15.2.2.2.1.cls kr_15.2.1 [[392, 155, 156], [393], [394], [395]] = true := by decide +kernel
theorem ko_15 : k_recP kr_15 := k_rec_ok k_okm kd_15 ke_15 (by decide +kernel)
theorem kd_16_0 : k_decL cX2_remember ((kc_16.drop 0).take 8) = true := by decide +kernel
theorem kx_16 : kc_16 = (kc_16.drop 0).take 8 := rfl
theorem kd_16 : ∀ ch ∈ kr_16.1, ∀ q ∈ ch, decode kr_16.2.2.2.2.1 q.1 = .ok q.2 := by
  show ∀ ch ∈ kc_16, ∀ q ∈ ch, decode cX2_remember q.1 = .ok q.2
  rw [kx_16]
  exact (k_decL_ok kd_16_0)
theorem ke_16 : k_ents kr_16.2.2.2.1.cls kr_16.2.1 [[393], [394], [395], [978, 726, 725, 147], [979, 560, 146, 561]] = true := by decide +kernel
theorem ko_16 : k_recP kr_16 := k_rec_ok k_okm kd_16 ke_16 (by decide +kernel)
theorem kd_18_0 : k_decL cX3_init ((kc_18.drop 0).take 8) = true := by decide +kernel
theorem kx_18 : kc_18 = (kc_18.drop 0).take 8 := rfl
theorem kd_18 : ∀ ch ∈ kr_18.1, ∀ q ∈ ch, decode kr_18.2.2.2.2.1 q.1 = .ok q.2 := by
  show ∀ ch ∈ kc_18, ∀ q ∈ ch, decode cX3_init q.1 = .ok q.2
  rw [kx_18]
  exact (k_decL_ok kd_18_0)
theorem ke_18 : k_ents kr_18.2.2.2.1.cls kr_18.2.1 [[197, 155, 156], [198], [199], [200], [202], [205], [208], [211], [213]] = true := by decide +kernel
theorem ko_18 : k_recP kr_18 := k_rec_ok k_okm kd_18 ke_18 (by decide +kernel)
theorem kd_19_0 : k_decL cX3_begin ((kc_19.drop 0).take 8) = true := by decide +kernel
theorem kx_19 : kc_19 = (kc_19.drop 0).take 8 := rfl
theorem kd_19 : ∀ ch ∈ kr_19.1, ∀ q ∈ ch, decode kr_19.2.2.2.2.1 q.1 = .ok q.2 := by
  show ∀ ch ∈ kc_19, ∀ q ∈ ch, decode cX3_begin q.1 = .ok q.2
  rw [kx_19]
  exact (k_decL_ok kd_19_0)
theorem ke_19 : k_ents kr_19.2.2.2.1.cls kr_19.2.1 [[198], [199], [200], [202], [211], [164], [171], [559, 560, 146, 561]] = true := by decide +kernel
theorem ko_19 : k_recP kr_19 := k_rec_ok k_okm kd_19 ke_19 (by decide +kernel)
theorem kd_25_0 : k_decL cX3_atEnd ((kc_25.drop 0).take 8) = true := by decide +kernel
theorem kx_25 : kc_25 = (kc_25.drop 0).take 8 := rfl
theorem kd_25 : ∀ ch ∈ kr_25.1, ∀ q ∈ ch, decode kr_25.2.2.2.2.1 q.1 = .ok q.2 := by
  show ∀ ch ∈ kc_25, ∀ q ∈ ch, decode cX3_atEnd q.1 = .ok q.2
  rw [kx_25]
  exact (k_decL_ok kd_25_0)
theorem ke_25 : k_ents kr_25.2.2.2.1.cls kr_25.2.1 [[198], [199], [200]] = true := by decide +kernel
theorem ko_25 : k_recP kr_25 := k_rec_ok k_okm kd_25 ke_25 (by decide +kernel)
end
section
theorem kd_32_0 : k_decL cX4_init ((kc_32.drop 0).take 8) = true := by decide +kernel
theorem kx_32 : kc_32 = (kc_32.drop 0).take 8 := rfl
theorem kd_32 : ∀ ch ∈ kr_32.1, ∀ q ∈ ch, decode kr_32.2.2.2.2.1 q.1 = .ok q.2 := by
  show ∀ ch ∈ kc_32, ∀ q ∈ ch, decode cX4_init q.1 = .ok q.2
  rw [kx_32]
  exact (k_decL_ok kd_32_0)
theorem ke_32 : k_ents kr_32.2.2.2.1.cls kr_32.2.1 [[409, 155, 156], [410], [411], [412], [413], [414], [415], [416]] = true := by decide +kernel
theorem ko_32 : k_recP kr_32 := k_rec_ok k_okm kd_32 ke_32 (by decide +kernel)
theorem kd_41_0 : k_decL cX5_init ((kc_41.drop 0).take 8) = true := by decide +kernel
theorem kx_41 : kc_41 = (kc_41.drop 0).take 8 := rfl
theorem kd_41 : ∀ ch ∈ kr_41.1, ∀ q ∈ ch, decode kr_41.2.2.2.2.1 q.1 = .ok q.2 := by
  show ∀ ch ∈ kc_41, ∀ q ∈ ch, decode cX5_init q.1 = .ok q.2
  rw [kx_41]
  exact (k_decL_ok kd_41_0)
theorem ke_41 : k_ents kr_41.2.2.2.1.cls kr_41.2.1 [[253, 155, 156], [254, 255, 138], [257, 256], [368], [373], [375], [377]] = true := by decide +kernel
theorem ko_41 : k_recP kr_41 := k_rec_ok k_okm kd_41 ke_41 (by decide +kernel)
theorem kd_42_0 : k_decL cX5_takeDraft ((kc_42.drop 0).take 8) = true := by decide +kernel
theorem kx_42 : kc_42 = (kc_42.drop 0).take 8 := rfl
theorem kd_42 : ∀ ch ∈ kr_42.1, ∀ q ∈ ch, decode kr_42.2.2.2.2.1 q.1 = .ok q.2 := by
  show ∀ ch ∈ kc_42, ∀ q ∈ ch, decode cX5_takeDraft q.1 = .ok q.2
  rw [kx_42]
  exact (k_decL_ok kd_42_0)
theorem ke_42 : k_ents kr_42.2.2.2.1.cls kr_42.2.1 [[368], [373], [375], [796, 553], [287], [328]] = true := by decide +kernel
theorem ko_42 : k_recP kr_42 := k_rec_ok k_okm kd_42 ke_42 (by decide +kernel)
theorem kd_48_0 : k_decL cX5_keptCount ((kc_48.drop 0).take 8) = true := by decide +kernel
theorem kx_48 : kc_48 = (kc_48.drop 0).take 8 := rfl
theorem kd_48 : ∀ ch ∈ kr_48.1, ∀ q ∈ ch, decode kr_48.2.2.2.2.1 q.1 = .ok q.2 := by
  show ∀ ch ∈ kc_48, ∀ q ∈ ch, decode cX5_keptCount q.1 = .ok q.2
  rw [kx_48]
  exact (k_decL_ok kd_48_0)
theorem ke_48 : k_ents kr_48.2.2.2.1.cls kr_48.2.1 [[375]] = true := by decide +kernel
theorem ko_48 : k_recP kr_48 := k_rec_ok k_okm kd_48 ke_48 (by decide +kernel)
theorem kd_49_0 : k_decL cX5_sitting ((kc_49.drop 0).take 8) = true := by decide +kernel
theorem kx_49 : kc_49 = (kc_49.drop 0).take 8 := rfl
theorem kd_49 : ∀ ch ∈ kr_49.1, ∀ q ∈ ch, decode kr_49.2.2.2.2.1 q.1 = .ok q.2 := by
  show ∀ ch ∈ kc_49, ∀ q ∈ ch, decode cX5_sitting q.1 = .ok q.2
  rw [kx_49]
  exact (k_decL_ok kd_49_0)
theorem ke_49 : k_ents kr_49.2.2.2.1.cls kr_49.2.1 [[368], [287]] = true := by decide +kernel
theorem ko_49 : k_recP kr_49 := k_rec_ok k_okm kd_49 ke_49 (by decide +kernel)
theorem kd_50_0 : k_decL cX5_brokenChairs ((kc_50.drop 0).take 8) = true := by decide +kernel
theorem kx_50 : kc_50 = (kc_50.drop 0).take 8 := rfl
theorem kd_50 : ∀ ch ∈ kr_50.1, ∀ q ∈ ch, decode kr_50.2.2.2.2.1 q.1 = .ok q.2 := by
  show ∀ ch ∈ kc_50, ∀ q ∈ ch, decode cX5_brokenChairs q.1 = .ok q.2
  rw [kx_50]
  exact (k_decL_ok kd_50_0)
theorem ke_50 : k_ents kr_50.2.2.2.1.cls kr_50.2.1 [[368], [287]] = true := by decide +kernel
theorem ko_50 : k_recP kr_50 := k_rec_ok k_okm kd_50 ke_50 (by decide +kernel)
theorem kd_51_0 : k_decL cX5_latestClock ((kc_51.drop 0).take 8) = true := by decide +kernel
theorem kx_51 : kc_51 = (kc_51.drop 0).take 8 := rfl
theorem kd_51 : ∀ ch ∈ kr_51.1, ∀ q ∈ ch, decode kr_51.2.2.2.2.1 q.1 = .ok q.2 := by
  show ∀ ch ∈ kc_51, ∀ q ∈ ch, decode cX5_latestClock q.1 = .ok q.2
  rw [kx_51]
  exact (k_decL_ok kd_51_0)
theorem ke_51 : k_ents kr_51.2.2.2.1.cls kr_51.2.1 [[368], [287], [842, 843, 146, 844]] = true := by decide +kernel
theorem ko_51 : k_recP kr_51 := k_rec_ok k_okm kd_51 ke_51 (by decide +kernel)
theorem kd_52_0 : k_decL cX5_allAches ((kc_52.drop 0).take 8) = true := by decide +kernel
theorem kx_52 : kc_52 = (kc_52.drop 0).take 8 := rfl
theorem kd_52 : ∀ ch ∈ kr_52.1, ∀ q ∈ ch, decode kr_52.2.2.2.2.1 q.1 = .ok q.2 := by
  show ∀ ch ∈ kc_52, ∀ q ∈ ch, decode cX5_allAches q.1 = .ok q.2
  rw [kx_52]
  exact (k_decL_ok kd_52_0)
theorem ke_52 : k_ents kr_52.2.2.2.1.cls kr_52.2.1 [[368], [287]] = true := by decide +kernel
theorem ko_52 : k_recP kr_52 := k_rec_ok k_okm kd_52 ke_52 (by decide +kernel)
theorem kd_61_0 : k_decL cX5_goingMinutes ((kc_61.drop 0).take 8) = true := by decide +kernel
theorem kx_61 : kc_61 = (kc_61.drop 0).take 8 := rfl
theorem kd_61 : ∀ ch ∈ kr_61.1, ∀ q ∈ ch, decode kr_61.2.2.2.2.1 q.1 = .ok q.2 := by
  show ∀ ch ∈ kc_61, ∀ q ∈ ch, decode cX5_goingMinutes q.1 = .ok q.2
  rw [kx_61]
  exact (k_decL_ok kd_61_0)
theorem ke_61 : k_ents kr_61.2.2.2.1.cls kr_61.2.1 [[368], [829, 686, 687], [927, 891, 892]] = true := by decide +kernel
theorem ko_61 : k_recP kr_61 := k_rec_ok k_okm kd_61 ke_61 (by decide +kernel)
theorem kd_67_0 : k_decL cX5_keptPart ((kc_67.drop 0).take 8) = true := by decide +kernel
theorem kx_67 : kc_67 = (kc_67.drop 0).take 8 := rfl
theorem kd_67 : ∀ ch ∈ kr_67.1, ∀ q ∈ ch, decode kr_67.2.2.2.2.1 q.1 = .ok q.2 := by
  show ∀ ch ∈ kc_67, ∀ q ∈ ch, decode cX5_keptPart q.1 = .ok q.2
  rw [kx_67]
  exact (k_decL_ok kd_67_0)
theorem ke_67 : k_ents kr_67.2.2.2.1.cls kr_67.2.1 [[375], [998, 854, 855]] = true := by decide +kernel
theorem ko_67 : k_recP kr_67 := k_rec_ok k_okm kd_67 ke_67 (by decide +kernel)
theorem kd_70_0 : k_decL cX5_canMend ((kc_70.drop 0).take 8) = true := by decide +kernel
theorem kx_70 : kc_70 = (kc_70.drop 0).take 8 := rfl
theorem kd_70 : ∀ ch ∈ kr_70.1, ∀ q ∈ ch, decode kr_70.2.2.2.2.1 q.1 = .ok q.2 := by
  show ∀ ch ∈ kc_70, ∀ q ∈ ch, decode cX5_canMend q.1 = .ok q.2
  rw [kx_70]
  exact (k_decL_ok kd_70_0)
theorem ke_70 : k_ents kr_70.2.2.2.1.cls kr_70.2.1 [[368], [916, 650, 651], [829, 686, 687], [298]] = true := by decide +kernel
theorem ko_70 : k_recP kr_70 := k_rec_ok k_okm kd_70 ke_70 (by decide +kernel)
theorem kd_72_0 : k_decL cX5_draw ((kc_72.drop 0).take 8) = true := by decide +kernel
theorem kx_72 : kc_72 = (kc_72.drop 0).take 8 := rfl
theorem kd_72 : ∀ ch ∈ kr_72.1, ∀ q ∈ ch, decode kr_72.2.2.2.2.1 q.1 = .ok q.2 := by
  show ∀ ch ∈ kc_72, ∀ q ∈ ch, decode cX5_draw q.1 = .ok q.2
  rw [kx_72]
  exact (k_decL_ok kd_72_0)
theorem ke_72 : k_ents kr_72.2.2.2.1.cls kr_72.2.1 [[368], [287]] = true := by decide +kernel
theorem ko_72 : k_recP kr_72 := k_rec_ok k_okm kd_72 ke_72 (by decide +kernel)
theorem kd_74_0 : k_decL cX5_isImage ((kc_74.drop 0).take 8) = true := by decide +kernel
theorem kd_74_8 : k_decL cX5_isImage ((kc_74.drop 8).take 8) = true := by decide +kernel
theorem kx_74 : kc_74 = (kc_74.drop 0).take 8 ++ ((kc_74.drop 8).take 8) := rfl
theorem kd_74 : ∀ ch ∈ kr_74.1, ∀ q ∈ ch, decode kr_74.2.2.2.2.1 q.1 = .ok q.2 := by
  show ∀ ch ∈ kc_74, ∀ q ∈ ch, decode cX5_isImage q.1 = .ok q.2
  rw [kx_74]
  exact (k_dec_app (k_decL_ok kd_74_0) (k_decL_ok kd_74_8))
theorem ke_74 : k_ents kr_74.2.2.2.1.cls kr_74.2.1 [[368], [287], [916, 650, 651], [992], [173], [167]] = true := by decide +kernel
theorem ko_74 : k_recP kr_74 := k_rec_ok k_okm kd_74 ke_74 (by decide +kernel)
theorem kd_78_0 : k_decL cX6_init ((kc_78.drop 0).take 8) = true := by decide +kernel
theorem kx_78 : kc_78 = (kc_78.drop 0).take 8 := rfl
theorem kd_78 : ∀ ch ∈ kr_78.1, ∀ q ∈ ch, decode kr_78.2.2.2.2.1 q.1 = .ok q.2 := by
  show ∀ ch ∈ kc_78, ∀ q ∈ ch, decode cX6_init q.1 = .ok q.2
  rw [kx_78]
  exact (k_decL_ok kd_78_0)
theorem ke_78 : k_ents kr_78.2.2.2.1.cls kr_78.2.1 [[456, 155, 156], [457], [458], [459], [460], [461], [462], [464], [466]] = true := by decide +kernel
theorem ko_78 : k_recP kr_78 := k_rec_ok k_okm kd_78 ke_78 (by decide +kernel)
theorem kd_81_0 : k_decL cX6_isTold ((kc_81.drop 0).take 8) = true := by decide +kernel
theorem kx_81 : kc_81 = (kc_81.drop 0).take 8 := rfl
theorem kd_81 : ∀ ch ∈ kr_81.1, ∀ q ∈ ch, decode kr_81.2.2.2.2.1 q.1 = .ok q.2 := by
  show ∀ ch ∈ kc_81, ∀ q ∈ ch, decode cX6_isTold q.1 = .ok q.2
  rw [kx_81]
  exact (k_decL_ok kd_81_0)
theorem ke_81 : k_ents kr_81.2.2.2.1.cls kr_81.2.1 [[172], [166], [1195, 650, 651]] = true := by decide +kernel
theorem ko_81 : k_recP kr_81 := k_rec_ok k_okm kd_81 ke_81 (by decide +kernel)
theorem kd_88_0 : k_decL cX7_init ((kc_88.drop 0).take 8) = true := by decide +kernel
theorem kx_88 : kc_88 = (kc_88.drop 0).take 8 := rfl
theorem kd_88 : ∀ ch ∈ kr_88.1, ∀ q ∈ ch, decode kr_88.2.2.2.2.1 q.1 = .ok q.2 := by
  show ∀ ch ∈ kc_88, ∀ q ∈ ch, decode cX7_init q.1 = .ok q.2
  rw [kx_88]
  exact (k_decL_ok kd_88_0)
theorem ke_88 : k_ents kr_88.2.2.2.1.cls kr_88.2.1 [[191, 155, 156], [192, 193, 136], [195, 194], [232]] = true := by decide +kernel
theorem ko_88 : k_recP kr_88 := k_rec_ok k_okm kd_88 ke_88 (by decide +kernel)
theorem kd_102_0 : k_decL cX8_init ((kc_102.drop 0).take 8) = true := by decide +kernel
theorem kx_102 : kc_102 = (kc_102.drop 0).take 8 := rfl
theorem kd_102 : ∀ ch ∈ kr_102.1, ∀ q ∈ ch, decode kr_102.2.2.2.2.1 q.1 = .ok q.2 := by
  show ∀ ch ∈ kc_102, ∀ q ∈ ch, decode cX8_init q.1 = .ok q.2
  rw [kx_102]
  exact (k_decL_ok kd_102_0)
theorem ke_102 : k_ents kr_102.2.2.2.1.cls kr_102.2.1 [[162, 155, 156], [163], [168]] = true := by decide +kernel
theorem ko_102 : k_recP kr_102 := k_rec_ok k_okm kd_102 ke_102 (by decide +kernel)
theorem kd_103_0 : k_decL cX8_append ((kc_103.drop 0).take 8) = true := by decide +kernel
theorem kx_103 : kc_103 = (kc_103.drop 0).take 8 := rfl
theorem kd_103 : ∀ ch ∈ kr_103.1, ∀ q ∈ ch, decode kr_103.2.2.2.2.1 q.1 = .ok q.2 := by
  show ∀ ch ∈ kc_103, ∀ q ∈ ch, decode cX8_append q.1 = .ok q.2
  rw [kx_103]
  exact (k_decL_ok kd_103_0)
theorem ke_103 : k_ents kr_103.2.2.2.1.cls kr_103.2.1 [[163], [168]] = true := by decide +kernel
theorem ko_103 : k_recP kr_103 := k_rec_ok k_okm kd_103 ke_103 (by decide +kernel)
theorem kd_104_0 : k_decL cX9_init ((kc_104.drop 0).take 8) = true := by decide +kernel
theorem kx_104 : kc_104 = (kc_104.drop 0).take 8 := rfl
theorem kd_104 : ∀ ch ∈ kr_104.1, ∀ q ∈ ch, decode kr_104.2.2.2.2.1 q.1 = .ok q.2 := by
  show ∀ ch ∈ kc_104, ∀ q ∈ ch, decode cX9_init q.1 = .ok q.2
  rw [kx_104]
  exact (k_decL_ok kd_104_0)
theorem ke_104 : k_ents kr_104.2.2.2.1.cls kr_104.2.1 [[259, 155, 156], [279], [286], [292], [295], [299], [301], [305], [309], [310], [312], [315], [318], [322], [327], [260, 261, 139], [263, 262], [329], [332]] = true := by decide +kernel
theorem ko_104 : k_recP kr_104 := k_rec_ok k_okm kd_104 ke_104 (by decide +kernel)
theorem kd_105_0 : k_decL cX9_clear ((kc_105.drop 0).take 8) = true := by decide +kernel
theorem kx_105 : kc_105 = (kc_105.drop 0).take 8 := rfl
theorem kd_105 : ∀ ch ∈ kr_105.1, ∀ q ∈ ch, decode kr_105.2.2.2.2.1 q.1 = .ok q.2 := by
  show ∀ ch ∈ kc_105, ∀ q ∈ ch, decode cX9_clear q.1 = .ok q.2
  rw [kx_105]
  exact (k_decL_ok kd_105_0)
theorem ke_105 : k_ents kr_105.2.2.2.1.cls kr_105.2.1 [[279], [286], [292], [295], [309], [329], [332], [552, 553], [269]] = true := by decide +kernel
theorem ko_105 : k_recP kr_105 := k_rec_ok k_okm kd_105 ke_105 (by decide +kernel)
theorem kd_106_0 : k_decL cX9_isRoom ((kc_106.drop 0).take 8) = true := by decide +kernel
theorem kx_106 : kc_106 = (kc_106.drop 0).take 8 := rfl
theorem kd_106 : ∀ ch ∈ kr_106.1, ∀ q ∈ ch, decode kr_106.2.2.2.2.1 q.1 = .ok q.2 := by
  show ∀ ch ∈ kc_106, ∀ q ∈ ch, decode cX9_isRoom q.1 = .ok q.2
  rw [kx_106]
  exact (k_decL_ok kd_106_0)
theorem ke_106 : k_ents kr_106.2.2.2.1.cls kr_106.2.1 [[279]] = true := by decide +kernel
theorem ko_106 : k_recP kr_106 := k_rec_ok k_okm kd_106 ke_106 (by decide +kernel)
theorem kd_107_0 : k_decL cX9_isPerson ((kc_107.drop 0).take 8) = true := by decide +kernel
theorem kx_107 : kc_107 = (kc_107.drop 0).take 8 := rfl
theorem kd_107 : ∀ ch ∈ kr_107.1, ∀ q ∈ ch, decode kr_107.2.2.2.2.1 q.1 = .ok q.2 := by
  show ∀ ch ∈ kc_107, ∀ q ∈ ch, decode cX9_isPerson q.1 = .ok q.2
  rw [kx_107]
  exact (k_decL_ok kd_107_0)
theorem ke_107 : k_ents kr_107.2.2.2.1.cls kr_107.2.1 [[286]] = true := by decide +kernel
theorem ko_107 : k_recP kr_107 := k_rec_ok k_okm kd_107 ke_107 (by decide +kernel)
theorem kd_117_0 : k_decL cX9_wayMinutes ((kc_117.drop 0).take 8) = true := by decide +kernel
theorem kx_117 : kc_117 = (kc_117.drop 0).take 8 := rfl
theorem kd_117 : ∀ ch ∈ kr_117.1, ∀ q ∈ ch, decode kr_117.2.2.2.2.1 q.1 = .ok q.2 := by
  show ∀ ch ∈ kc_117, ∀ q ∈ ch, decode cX9_wayMinutes q.1 = .ok q.2
  rw [kx_117]
  exact (k_decL_ok kd_117_0)
theorem ke_117 : k_ents kr_117.2.2.2.1.cls kr_117.2.1 [[309], [649, 650, 651]] = true := by decide +kernel
theorem ko_117 : k_recP kr_117 := k_rec_ok k_okm kd_117 ke_117 (by decide +kernel)
theorem kd_120_0 : k_decL cX10_init ((kc_120.drop 0).take 8) = true := by decide +kernel
theorem kx_120 : kc_120 = (kc_120.drop 0).take 8 := rfl
theorem kd_120 : ∀ ch ∈ kr_120.1, ∀ q ∈ ch, decode kr_120.2.2.2.2.1 q.1 = .ok q.2 := by
  show ∀ ch ∈ kc_120, ∀ q ∈ ch, decode cX10_init q.1 = .ok q.2
  rw [kx_120]
  exact (k_decL_ok kd_120_0)
theorem ke_120 : k_ents kr_120.2.2.2.1.cls kr_120.2.1 [[185, 155, 156], [186, 187, 135], [189, 188], [237], [233], [238], [240]] = true := by decide +kernel
theorem ko_120 : k_recP kr_120 := k_rec_ok k_okm kd_120 ke_120 (by decide +kernel)
theorem kd_121_0 : k_decL cX10_read ((kc_121.drop 0).take 8) = true := by decide +kernel
theorem kx_121 : kc_121 = (kc_121.drop 0).take 8 := rfl
theorem kd_121 : ∀ ch ∈ kr_121.1, ∀ q ∈ ch, decode kr_121.2.2.2.2.1 q.1 = .ok q.2 := by
  show ∀ ch ∈ kc_121, ∀ q ∈ ch, decode cX10_read q.1 = .ok q.2
  rw [kx_121]
  exact (k_decL_ok kd_121_0)
theorem ke_121 : k_ents kr_121.2.2.2.1.cls kr_121.2.1 [[238], [548, 549, 550], [555, 556, 557], [562, 563, 564], [201]] = true := by decide +kernel
theorem ko_121 : k_recP kr_121 := k_rec_ok k_okm kd_121 ke_121 (by decide +kernel)
theorem kd_135_0 : k_decL cX11_init ((kc_135.drop 0).take 8) = true := by decide +kernel
theorem kx_135 : kc_135 = (kc_135.drop 0).take 8 := rfl
theorem kd_135 : ∀ ch ∈ kr_135.1, ∀ q ∈ ch, decode kr_135.2.2.2.2.1 q.1 = .ok q.2 := by
  show ∀ ch ∈ kc_135, ∀ q ∈ ch, decode cX11_init q.1 = .ok q.2
  rw [kx_135]
  exact (k_decL_ok kd_135_0)
theorem ke_135 : k_ents kr_135.2.2.2.1.cls kr_135.2.1 [[154, 155, 156], [157, 158, 133], [160, 159], [484], [180, 181, 134], [183, 182], [485], [248, 249, 137], [251, 250], [486], [387, 388, 140], [390, 389], [487], [404, 405, 141], [407, 406], [488], [433, 434, 142], [436, 435], [489], [451, 452, 143], [454, 453], [490], [491], [492], [493], [494], [495], [496]] = true := by decide +kernel
theorem ko_135 : k_recP kr_135 := k_rec_ok k_okm kd_135 ke_135 (by decide +kernel)
theorem kd_136_0 : k_decL cX11_feed ((kc_136.drop 0).take 8) = true := by decide +kernel
theorem kx_136 : kc_136 = (kc_136.drop 0).take 8 := rfl
theorem kd_136 : ∀ ch ∈ kr_136.1, ∀ q ∈ ch, decode kr_136.2.2.2.2.1 q.1 = .ok q.2 := by
  show ∀ ch ∈ kc_136, ∀ q ∈ ch, decode cX11_feed q.1 = .ok q.2
  rw [kx_136]
  exact (k_decL_ok kd_136_0)
theorem ke_136 : k_ents kr_136.2.2.2.1.cls kr_136.2.1 [[484], [170], [528, 530, 0], [532, 533, 534]] = true := by decide +kernel
theorem ko_136 : k_recP kr_136 := k_rec_ok k_okm kd_136 ke_136 (by decide +kernel)
theorem kd_137_0 : k_decL cX11_end ((kc_137.drop 0).take 8) = true := by decide +kernel
theorem kx_137 : kc_137 = (kc_137.drop 0).take 8 := rfl
theorem kd_137 : ∀ ch ∈ kr_137.1, ∀ q ∈ ch, decode kr_137.2.2.2.2.1 q.1 = .ok q.2 := by
  show ∀ ch ∈ kc_137, ∀ q ∈ ch, decode cX11_end q.1 = .ok q.2
  rw [kx_137]
  exact (k_decL_ok kd_137_0)
theorem ke_137 : k_ents kr_137.2.2.2.1.cls kr_137.2.1 [[484], [170], [528, 530, 0]] = true := by decide +kernel
theorem ko_137 : k_recP kr_137 := k_rec_ok k_okm kd_137 ke_137 (by decide +kernel)
theorem kd_138_0 : k_decL cX11_town ((kc_138.drop 0).take 8) = true := by decide +kernel
theorem kx_138 : kc_138 = (kc_138.drop 0).take 8 := rfl
theorem kd_138 : ∀ ch ∈ kr_138.1, ∀ q ∈ ch, decode kr_138.2.2.2.2.1 q.1 = .ok q.2 := by
  show ∀ ch ∈ kc_138, ∀ q ∈ ch, decode cX11_town q.1 = .ok q.2
  rw [kx_138]
  exact (k_decL_ok kd_138_0)
theorem ke_138 : k_ents kr_138.2.2.2.1.cls kr_138.2.1 [[484], [485], [486], [487], [489], [490], [494], [495], [170], [528, 530, 0], [374], [544, 545, 546], [239], [212], [214], [792, 793, 794], [396], [443], [465]] = true := by decide +kernel
theorem ko_138 : k_recP kr_138 := k_rec_ok k_okm kd_138 ke_138 (by decide +kernel)
end
section
theorem kd_139_0 : k_decL cX11_fault ((kc_139.drop 0).take 8) = true := by decide +kernel
theorem kx_139 : kc_139 = (kc_139.drop 0).take 8 := rfl
theorem kd_139 : ∀ ch ∈ kr_139.1, ∀ q ∈ ch, decode kr_139.2.2.2.2.1 q.1 = .ok q.2 := by
  show ∀ ch ∈ kc_139, ∀ q ∈ ch, decode cX11_fault q.1 = .ok q.2
  rw [kx_139]
  exact (k_decL_ok kd_139_0)
theorem ke_139 : k_ents kr_139.2.2.2.1.cls kr_139.2.1 [[494], [495]] = true := by decide +kernel
theorem ko_139 : k_recP kr_139 := k_rec_ok k_okm kd_139 ke_139 (by decide +kernel)
theorem kd_140_0 : k_decL cX11_has ((kc_140.drop 0).take 8) = true := by decide +kernel
theorem kd_140_8 : k_decL cX11_has ((kc_140.drop 8).take 8) = true := by decide +kernel
theorem kx_140 : kc_140 = (kc_140.drop 0).take 8 ++ ((kc_140.drop 8).take 8) := rfl
theorem kd_140 : ∀ ch ∈ kr_140.1, ∀ q ∈ ch, decode kr_140.2.2.2.2.1 q.1 = .ok q.2 := by
  show ∀ ch ∈ kc_140, ∀ q ∈ ch, decode cX11_has q.1 = .ok q.2
  rw [kx_140]
  exact (k_dec_app (k_decL_ok kd_140_0) (k_decL_ok kd_140_8))
theorem ke_140 : k_ents kr_140.2.2.2.1.cls kr_140.2.1 [[486], [487], [496], [396], [372], [283], [291], [293], [296], [805, 806, 807], [830, 831, 832], [834, 835, 836], [845, 846, 847], [853, 854, 855]] = true := by decide +kernel
theorem ko_140 : k_recP kr_140 := k_rec_ok k_okm kd_140 ke_140 (by decide +kernel)
theorem kd_141_0 : k_decL cX11_letter ((kc_141.drop 0).take 8) = true := by decide +kernel
theorem kx_141 : kc_141 = (kc_141.drop 0).take 8 := rfl
theorem kd_141 : ∀ ch ∈ kr_141.1, ∀ q ∈ ch, decode kr_141.2.2.2.2.1 q.1 = .ok q.2 := by
  show ∀ ch ∈ kc_141, ∀ q ∈ ch, decode cX11_letter q.1 = .ok q.2
  rw [kx_141]
  exact (k_decL_ok kd_141_0)
theorem ke_141 : k_ents kr_141.2.2.2.1.cls kr_141.2.1 [[486], [372], [861, 650, 651], [300], [865, 686, 687], [311]] = true := by decide +kernel
theorem ko_141 : k_recP kr_141 := k_rec_ok k_okm kd_141 ke_141 (by decide +kernel)
theorem kd_142_0 : k_decL cX11_room ((kc_142.drop 0).take 8) = true := by decide +kernel
theorem kx_142 : kc_142 = (kc_142.drop 0).take 8 := rfl
theorem kd_142 : ∀ ch ∈ kr_142.1, ∀ q ∈ ch, decode kr_142.2.2.2.2.1 q.1 = .ok q.2 := by
  show ∀ ch ∈ kc_142, ∀ q ∈ ch, decode cX11_room q.1 = .ok q.2
  rw [kx_142]
  exact (k_decL_ok kd_142_0)
theorem ke_142 : k_ents kr_142.2.2.2.1.cls kr_142.2.1 [[486], [372], [861, 650, 651], [303], [307]] = true := by decide +kernel
theorem ko_142 : k_recP kr_142 := k_rec_ok k_okm kd_142 ke_142 (by decide +kernel)
theorem kd_143_0 : k_decL cX11_way ((kc_143.drop 0).take 8) = true := by decide +kernel
theorem kx_143 : kc_143 = (kc_143.drop 0).take 8 := rfl
theorem kd_143 : ∀ ch ∈ kr_143.1, ∀ q ∈ ch, decode kr_143.2.2.2.2.1 q.1 = .ok q.2 := by
  show ∀ ch ∈ kc_143, ∀ q ∈ ch, decode cX11_way q.1 = .ok q.2
  rw [kx_143]
  exact (k_decL_ok kd_143_0)
theorem ke_143 : k_ents kr_143.2.2.2.1.cls kr_143.2.1 [[486], [372], [890, 891, 892]] = true := by decide +kernel
theorem ko_143 : k_recP kr_143 := k_rec_ok k_okm kd_143 ke_143 (by decide +kernel)
theorem kd_144_0 : k_decL cX11_person ((kc_144.drop 0).take 8) = true := by decide +kernel
theorem kd_144_8 : k_decL cX11_person ((kc_144.drop 8).take 8) = true := by decide +kernel
theorem kx_144 : kc_144 = (kc_144.drop 0).take 8 ++ ((kc_144.drop 8).take 8) := rfl
theorem kd_144 : ∀ ch ∈ kr_144.1, ∀ q ∈ ch, decode kr_144.2.2.2.2.1 q.1 = .ok q.2 := by
  show ∀ ch ∈ kc_144, ∀ q ∈ ch, decode cX11_person q.1 = .ok q.2
  rw [kx_144]
  exact (k_dec_app (k_decL_ok kd_144_0) (k_decL_ok kd_144_8))
theorem ke_144 : k_ents kr_144.2.2.2.1.cls kr_144.2.1 [[486], [372], [865, 686, 687], [324], [313], [316], [320]] = true := by decide +kernel
theorem ko_144 : k_recP kr_144 := k_rec_ok k_okm kd_144 ke_144 (by decide +kernel)
theorem kd_145_0 : k_decL cX11_fits ((kc_145.drop 0).take 8) = true := by decide +kernel
theorem kx_145 : kc_145 = (kc_145.drop 0).take 8 := rfl
theorem kd_145 : ∀ ch ∈ kr_145.1, ∀ q ∈ ch, decode kr_145.2.2.2.2.1 q.1 = .ok q.2 := by
  show ∀ ch ∈ kc_145, ∀ q ∈ ch, decode cX11_fits q.1 = .ok q.2
  rw [kx_145]
  exact (k_decL_ok kd_145_0)
theorem ke_145 : k_ents kr_145.2.2.2.1.cls kr_145.2.1 [[486], [372], [861, 650, 651], [865, 686, 687]] = true := by decide +kernel
theorem ko_145 : k_recP kr_145 := k_rec_ok k_okm kd_145 ke_145 (by decide +kernel)
theorem kd_146_0 : k_decL cX11_takes ((kc_146.drop 0).take 8) = true := by decide +kernel
theorem kx_146 : kc_146 = (kc_146.drop 0).take 8 := rfl
theorem kd_146 : ∀ ch ∈ kr_146.1, ∀ q ∈ ch, decode kr_146.2.2.2.2.1 q.1 = .ok q.2 := by
  show ∀ ch ∈ kc_146, ∀ q ∈ ch, decode cX11_takes q.1 = .ok q.2
  rw [kx_146]
  exact (k_decL_ok kd_146_0)
theorem ke_146 : k_ents kr_146.2.2.2.1.cls kr_146.2.1 [[486], [923, 924, 925]] = true := by decide +kernel
theorem ko_146 : k_recP kr_146 := k_rec_ok k_okm kd_146 ke_146 (by decide +kernel)
theorem kd_147_0 : k_decL cX11_go ((kc_147.drop 0).take 8) = true := by decide +kernel
theorem kx_147 : kc_147 = (kc_147.drop 0).take 8 := rfl
theorem kd_147 : ∀ ch ∈ kr_147.1, ∀ q ∈ ch, decode kr_147.2.2.2.2.1 q.1 = .ok q.2 := by
  show ∀ ch ∈ kc_147, ∀ q ∈ ch, decode cX11_go q.1 = .ok q.2
  rw [kx_147]
  exact (k_decL_ok kd_147_0)
theorem ke_147 : k_ents kr_147.2.2.2.1.cls kr_147.2.1 [[486], [487], [528, 530, 0], [923, 924, 925], [376], [974, 975, 976]] = true := by decide +kernel
theorem ko_147 : k_recP kr_147 := k_rec_ok k_okm kd_147 ke_147 (by decide +kernel)
theorem kd_148_0 : k_decL cX11_stay ((kc_148.drop 0).take 8) = true := by decide +kernel
theorem kx_148 : kc_148 = (kc_148.drop 0).take 8 := rfl
theorem kd_148 : ∀ ch ∈ kr_148.1, ∀ q ∈ ch, decode kr_148.2.2.2.2.1 q.1 = .ok q.2 := by
  show ∀ ch ∈ kc_148, ∀ q ∈ ch, decode cX11_stay q.1 = .ok q.2
  rw [kx_148]
  exact (k_decL_ok kd_148_0)
theorem ke_148 : k_ents kr_148.2.2.2.1.cls kr_148.2.1 [[486], [487], [528, 530, 0], [372], [865, 686, 687], [376], [974, 975, 976]] = true := by decide +kernel
theorem ko_148 : k_recP kr_148 := k_rec_ok k_okm kd_148 ke_148 (by decide +kernel)
theorem kd_149_0 : k_decL cX11_mend ((kc_149.drop 0).take 8) = true := by decide +kernel
theorem kx_149 : kc_149 = (kc_149.drop 0).take 8 := rfl
theorem kd_149 : ∀ ch ∈ kr_149.1, ∀ q ∈ ch, decode kr_149.2.2.2.2.1 q.1 = .ok q.2 := by
  show ∀ ch ∈ kc_149, ∀ q ∈ ch, decode cX11_mend q.1 = .ok q.2
  rw [kx_149]
  exact (k_decL_ok kd_149_0)
theorem ke_149 : k_ents kr_149.2.2.2.1.cls kr_149.2.1 [[486], [487], [528, 530, 0], [376], [974, 975, 976], [1023, 1024, 1025]] = true := by decide +kernel
theorem ko_149 : k_recP kr_149 := k_rec_ok k_okm kd_149 ke_149 (by decide +kernel)
theorem kd_150_0 : k_decL cX11_days ((kc_150.drop 0).take 8) = true := by decide +kernel
theorem kx_150 : kc_150 = (kc_150.drop 0).take 8 := rfl
theorem kd_150 : ∀ ch ∈ kr_150.1, ∀ q ∈ ch, decode kr_150.2.2.2.2.1 q.1 = .ok q.2 := by
  show ∀ ch ∈ kc_150, ∀ q ∈ ch, decode cX11_days q.1 = .ok q.2
  rw [kx_150]
  exact (k_decL_ok kd_150_0)
theorem ke_150 : k_ents kr_150.2.2.2.1.cls kr_150.2.1 [[486], [487], [528, 530, 0], [372], [291], [376], [974, 975, 976]] = true := by decide +kernel
theorem ko_150 : k_recP kr_150 := k_rec_ok k_okm kd_150 ke_150 (by decide +kernel)
theorem kd_151_0 : k_decL cX11_undo ((kc_151.drop 0).take 8) = true := by decide +kernel
theorem kx_151 : kc_151 = (kc_151.drop 0).take 8 := rfl
theorem kd_151 : ∀ ch ∈ kr_151.1, ∀ q ∈ ch, decode kr_151.2.2.2.2.1 q.1 = .ok q.2 := by
  show ∀ ch ∈ kc_151, ∀ q ∈ ch, decode cX11_undo q.1 = .ok q.2
  rw [kx_151]
  exact (k_decL_ok kd_151_0)
theorem ke_151 : k_ents kr_151.2.2.2.1.cls kr_151.2.1 [[486], [487], [528, 530, 0], [396], [376]] = true := by decide +kernel
theorem ko_151 : k_recP kr_151 := k_rec_ok k_okm kd_151 ke_151 (by decide +kernel)
theorem kd_152_0 : k_decL cX11_seed ((kc_152.drop 0).take 8) = true := by decide +kernel
theorem kx_152 : kc_152 = (kc_152.drop 0).take 8 := rfl
theorem kd_152 : ∀ ch ∈ kr_152.1, ∀ q ∈ ch, decode kr_152.2.2.2.2.1 q.1 = .ok q.2 := by
  show ∀ ch ∈ kc_152, ∀ q ∈ ch, decode cX11_seed q.1 = .ok q.2
  rw [kx_152]
  exact (k_decL_ok kd_152_0)
theorem ke_152 : k_ents kr_152.2.2.2.1.cls kr_152.2.1 [[496], [528, 530, 0]] = true := by decide +kernel
theorem ko_152 : k_recP kr_152 := k_rec_ok k_okm kd_152 ke_152 (by decide +kernel)
theorem kd_153_0 : k_decL cX11_kept ((kc_153.drop 0).take 8) = true := by decide +kernel
theorem kx_153 : kc_153 = (kc_153.drop 0).take 8 := rfl
theorem kd_153 : ∀ ch ∈ kr_153.1, ∀ q ∈ ch, decode kr_153.2.2.2.2.1 q.1 = .ok q.2 := by
  show ∀ ch ∈ kc_153, ∀ q ∈ ch, decode cX11_kept q.1 = .ok q.2
  rw [kx_153]
  exact (k_decL_ok kd_153_0)
theorem ke_153 : k_ents kr_153.2.2.2.1.cls kr_153.2.1 [[486], [1066, 1067, 1068]] = true := by decide +kernel
theorem ko_153 : k_recP kr_153 := k_rec_ok k_okm kd_153 ke_153 (by decide +kernel)
theorem kd_154_0 : k_decL cX11_route ((kc_154.drop 0).take 8) = true := by decide +kernel
theorem kx_154 : kc_154 = (kc_154.drop 0).take 8 := rfl
theorem kd_154 : ∀ ch ∈ kr_154.1, ∀ q ∈ ch, decode kr_154.2.2.2.2.1 q.1 = .ok q.2 := by
  show ∀ ch ∈ kc_154, ∀ q ∈ ch, decode cX11_route q.1 = .ok q.2
  rw [kx_154]
  exact (k_decL_ok kd_154_0)
theorem ke_154 : k_ents kr_154.2.2.2.1.cls kr_154.2.1 [[486], [488], [372], [283], [865, 686, 687], [1074, 1076, 34], [417]] = true := by decide +kernel
theorem ko_154 : k_recP kr_154 := k_rec_ok k_okm kd_154 ke_154 (by decide +kernel)
theorem kd_155_0 : k_decL cX11_bearer ((kc_155.drop 0).take 8) = true := by decide +kernel
theorem kx_155 : kc_155 = (kc_155.drop 0).take 8 := rfl
theorem kd_155 : ∀ ch ∈ kr_155.1, ∀ q ∈ ch, decode kr_155.2.2.2.2.1 q.1 = .ok q.2 := by
  show ∀ ch ∈ kc_155, ∀ q ∈ ch, decode cX11_bearer q.1 = .ok q.2
  rw [kx_155]
  exact (k_decL_ok kd_155_0)
theorem ke_155 : k_ents kr_155.2.2.2.1.cls kr_155.2.1 [[486], [488], [372], [283], [1074, 1076, 34], [417]] = true := by decide +kernel
theorem ko_155 : k_recP kr_155 := k_rec_ok k_okm kd_155 ke_155 (by decide +kernel)
theorem kd_156_0 : k_decL cX11_errand ((kc_156.drop 0).take 8) = true := by decide +kernel
theorem kx_156 : kc_156 = (kc_156.drop 0).take 8 := rfl
theorem kd_156 : ∀ ch ∈ kr_156.1, ∀ q ∈ ch, decode kr_156.2.2.2.2.1 q.1 = .ok q.2 := by
  show ∀ ch ∈ kc_156, ∀ q ∈ ch, decode cX11_errand q.1 = .ok q.2
  rw [kx_156]
  exact (k_decL_ok kd_156_0)
theorem ke_156 : k_ents kr_156.2.2.2.1.cls kr_156.2.1 [[484], [486], [489], [170], [528, 530, 0], [1124, 1125, 1126]] = true := by decide +kernel
theorem ko_156 : k_recP kr_156 := k_rec_ok k_okm kd_156 ke_156 (by decide +kernel)
theorem kd_157_0 : k_decL cX11_along ((kc_157.drop 0).take 8) = true := by decide +kernel
theorem kx_157 : kc_157 = (kc_157.drop 0).take 8 := rfl
theorem kd_157 : ∀ ch ∈ kr_157.1, ∀ q ∈ ch, decode kr_157.2.2.2.2.1 q.1 = .ok q.2 := by
  show ∀ ch ∈ kc_157, ∀ q ∈ ch, decode cX11_along q.1 = .ok q.2
  rw [kx_157]
  exact (k_decL_ok kd_157_0)
theorem ke_157 : k_ents kr_157.2.2.2.1.cls kr_157.2.1 [[489], [443], [441]] = true := by decide +kernel
theorem ko_157 : k_recP kr_157 := k_rec_ok k_okm kd_157 ke_157 (by decide +kernel)
theorem kd_158_0 : k_decL cX11_seated ((kc_158.drop 0).take 8) = true := by decide +kernel
theorem kx_158 : kc_158 = (kc_158.drop 0).take 8 := rfl
theorem kd_158 : ∀ ch ∈ kr_158.1, ∀ q ∈ ch, decode kr_158.2.2.2.2.1 q.1 = .ok q.2 := by
  show ∀ ch ∈ kc_158, ∀ q ∈ ch, decode cX11_seated q.1 = .ok q.2
  rw [kx_158]
  exact (k_decL_ok kd_158_0)
theorem ke_158 : k_ents kr_158.2.2.2.1.cls kr_158.2.1 [[486], [490], [372], [291], [861, 650, 651]] = true := by decide +kernel
theorem ko_158 : k_recP kr_158 := k_rec_ok k_okm kd_158 ke_158 (by decide +kernel)
theorem kd_159_0 : k_decL cX11_standing ((kc_159.drop 0).take 8) = true := by decide +kernel
theorem kx_159 : kc_159 = (kc_159.drop 0).take 8 := rfl
theorem kd_159 : ∀ ch ∈ kr_159.1, ∀ q ∈ ch, decode kr_159.2.2.2.2.1 q.1 = .ok q.2 := by
  show ∀ ch ∈ kc_159, ∀ q ∈ ch, decode cX11_standing q.1 = .ok q.2
  rw [kx_159]
  exact (k_decL_ok kd_159_0)
theorem ke_159 : k_ents kr_159.2.2.2.1.cls kr_159.2.1 [[484], [486], [490], [170], [528, 530, 0], [372], [1191, 1192, 1193]] = true := by decide +kernel
theorem ko_159 : k_recP kr_159 := k_rec_ok k_okm kd_159 ke_159 (by decide +kernel)
theorem kd_160_0 : k_decL cX11_where ((kc_160.drop 0).take 8) = true := by decide +kernel
theorem kx_160 : kc_160 = (kc_160.drop 0).take 8 := rfl
theorem kd_160 : ∀ ch ∈ kr_160.1, ∀ q ∈ ch, decode kr_160.2.2.2.2.1 q.1 = .ok q.2 := by
  show ∀ ch ∈ kc_160, ∀ q ∈ ch, decode cX11_where q.1 = .ok q.2
  rw [kx_160]
  exact (k_decL_ok kd_160_0)
theorem ke_160 : k_ents kr_160.2.2.2.1.cls kr_160.2.1 [[486], [490], [465], [372], [861, 650, 651], [865, 686, 687], [463]] = true := by decide +kernel
theorem ko_160 : k_recP kr_160 := k_rec_ok k_okm kd_160 ke_160 (by decide +kernel)
theorem kd_161_0 : k_decL cX11_image ((kc_161.drop 0).take 8) = true := by decide +kernel
theorem kx_161 : kc_161 = (kc_161.drop 0).take 8 := rfl
theorem kd_161 : ∀ ch ∈ kr_161.1, ∀ q ∈ ch, decode kr_161.2.2.2.2.1 q.1 = .ok q.2 := by
  show ∀ ch ∈ kc_161, ∀ q ∈ ch, decode cX11_image q.1 = .ok q.2
  rw [kx_161]
  exact (k_decL_ok kd_161_0)
theorem ke_161 : k_ents kr_161.2.2.2.1.cls kr_161.2.1 [[486], [492], [493], [1232, 1233, 1234]] = true := by decide +kernel
theorem ko_161 : k_recP kr_161 := k_rec_ok k_okm kd_161 ke_161 (by decide +kernel)
theorem kd_162_0 : k_decL cX11_octet ((kc_162.drop 0).take 8) = true := by decide +kernel
theorem kx_162 : kc_162 = (kc_162.drop 0).take 8 := rfl
theorem kd_162 : ∀ ch ∈ kr_162.1, ∀ q ∈ ch, decode kr_162.2.2.2.2.1 q.1 = .ok q.2 := by
  show ∀ ch ∈ kc_162, ∀ q ∈ ch, decode cX11_octet q.1 = .ok q.2
  rw [kx_162]
  exact (k_decL_ok kd_162_0)
theorem ke_162 : k_ents kr_162.2.2.2.1.cls kr_162.2.1 [[492], [493]] = true := by decide +kernel
theorem ko_162 : k_recP kr_162 := k_rec_ok k_okm kd_162 ke_162 (by decide +kernel)
theorem kd_163_0 : k_decL cX11_on ((kc_163.drop 0).take 8) = true := by decide +kernel
theorem kx_163 : kc_163 = (kc_163.drop 0).take 8 := rfl
theorem kd_163 : ∀ ch ∈ kr_163.1, ∀ q ∈ ch, decode kr_163.2.2.2.2.1 q.1 = .ok q.2 := by
  show ∀ ch ∈ kc_163, ∀ q ∈ ch, decode cX11_on q.1 = .ok q.2
  rw [kx_163]
  exact (k_decL_ok kd_163_0)
theorem ke_163 : k_ents kr_163.2.2.2.1.cls kr_163.2.1 [[484], [486], [487], [170], [528, 530, 0], [396], [1248, 1249, 1250]] = true := by decide +kernel
theorem ko_163 : k_recP kr_163 := k_rec_ok k_okm kd_163 ke_163 (by decide +kernel)
theorem kd_164_0 : k_decL cX11_status ((kc_164.drop 0).take 8) = true := by decide +kernel
theorem kx_164 : kc_164 = (kc_164.drop 0).take 8 := rfl
theorem kd_164 : ∀ ch ∈ kr_164.1, ∀ q ∈ ch, decode kr_164.2.2.2.2.1 q.1 = .ok q.2 := by
  show ∀ ch ∈ kc_164, ∀ q ∈ ch, decode cX11_status q.1 = .ok q.2
  rw [kx_164]
  exact (k_decL_ok kd_164_0)
theorem ke_164 : k_ents kr_164.2.2.2.1.cls kr_164.2.1 [[491]] = true := by decide +kernel
theorem ko_164 : k_recP kr_164 := k_rec_ok k_okm kd_164 ke_164 (by decide +kernel)
theorem kd_165_0 : k_decL cX11_refuse ((kc_165.drop 0).take 8) = true := by decide +kernel
theorem kx_165 : kc_165 = (kc_165.drop 0).take 8 := rfl
theorem kd_165 : ∀ ch ∈ kr_165.1, ∀ q ∈ ch, decode kr_165.2.2.2.2.1 q.1 = .ok q.2 := by
  show ∀ ch ∈ kc_165, ∀ q ∈ ch, decode cX11_refuse q.1 = .ok q.2
  rw [kx_165]
  exact (k_decL_ok kd_165_0)
theorem ke_165 : k_ents kr_165.2.2.2.1.cls kr_165.2.1 [[491]] = true := by decide +kernel
theorem ko_165 : k_recP kr_165 := k_rec_ok k_okm kd_165 ke_165 (by decide +kernel)
theorem kd_167_0 : k_decL cX11_canTravel ((kc_167.drop 0).take 8) = true := by decide +kernel
theorem kx_167 : kc_167 = (kc_167.drop 0).take 8 := rfl
theorem kd_167 : ∀ ch ∈ kr_167.1, ∀ q ∈ ch, decode kr_167.2.2.2.2.1 q.1 = .ok q.2 := by
  show ∀ ch ∈ kc_167, ∀ q ∈ ch, decode cX11_canTravel q.1 = .ok q.2
  rw [kx_167]
  exact (k_decL_ok kd_167_0)
theorem ke_167 : k_ents kr_167.2.2.2.1.cls kr_167.2.1 [[486], [372], [861, 650, 651], [865, 686, 687]] = true := by decide +kernel
theorem ko_167 : k_recP kr_167 := k_rec_ok k_okm kd_167 ke_167 (by decide +kernel)
theorem kd_171_0 : k_decL cX12_init ((kc_171.drop 0).take 8) = true := by decide +kernel
theorem kd_171_8 : k_decL cX12_init ((kc_171.drop 8).take 8) = true := by decide +kernel
theorem kd_171_16 : k_decL cX12_init ((kc_171.drop 16).take 8) = true := by decide +kernel
theorem kd_171_24 : k_decL cX12_init ((kc_171.drop 24).take 8) = true := by decide +kernel
theorem kd_171_32 : k_decL cX12_init ((kc_171.drop 32).take 8) = true := by decide +kernel
theorem kx_171 : kc_171 = (kc_171.drop 0).take 8 ++ ((kc_171.drop 8).take 8 ++ ((kc_171.drop 16).take 8 ++ ((kc_171.drop 24).take 8 ++ ((kc_171.drop 32).take 8)))) := rfl
theorem kd_171 : ∀ ch ∈ kr_171.1, ∀ q ∈ ch, decode kr_171.2.2.2.2.1 q.1 = .ok q.2 := by
  show ∀ ch ∈ kc_171, ∀ q ∈ ch, decode cX12_init q.1 = .ok q.2
  rw [kx_171]
  exact (k_dec_app (k_decL_ok kd_171_0) (k_dec_app (k_decL_ok kd_171_8) (k_dec_app (k_decL_ok kd_171_16) (k_dec_app (k_decL_ok kd_171_24) (k_decL_ok kd_171_32)))))
theorem ke_171 : k_ents kr_171.2.2.2.1.cls kr_171.2.1 [[1272, 155, 156], [1273], [1274], [1275], [1276], [1277], [1278], [1279], [1280], [1281], [1282], [1283], [1284], [1285], [1286], [1287], [1288], [1289], [1290], [1291], [1292], [1293], [1294], [1295], [1296], [1297], [1298], [1299], [1300], [1301], [1302], [1303], [1304], [1305], [1306], [1307], [1308], [1309], [1310], [1311], [1312], [1313], [1314], [1315], [1316], [1317], [1318], [1319], [1320], [1321], [1322], [1323], [1324], [1325], [1326], [1327], [1328], [1329], [1330], [1331], [1332], [1333], [1334], [1335], [1336], [1337], [1338], [1339], [1340], [1341], [1342], [1343], [1344], [1345], [1346], [1347], [1348], [1349], [1350], [1351], [1352]] = true := by decide +kernel
theorem ko_171 : k_recP kr_171 := k_rec_ok k_okm kd_171 ke_171 (by decide +kernel)
end
section
theorem kd_172_0 : k_decL cX12_is ((kc_172.drop 0).take 8) = true := by decide +kernel
theorem kx_172 : kc_172 = (kc_172.drop 0).take 8 := rfl
theorem kd_172 : ∀ ch ∈ kr_172.1, ∀ q ∈ ch, decode kr_172.2.2.2.2.1 q.1 = .ok q.2 := by
  show ∀ ch ∈ kc_172, ∀ q ∈ ch, decode cX12_is q.1 = .ok q.2
  rw [kx_172]
  exact (k_decL_ok kd_172_0)
theorem ke_172 : k_ents kr_172.2.2.2.1.cls kr_172.2.1 [] = true := by decide +kernel
theorem ko_172 : k_recP kr_172 := k_rec_ok k_okm kd_172 ke_172 (by decide +kernel)
theorem kd_173_0 : k_decL cX12_put ((kc_173.drop 0).take 8) = true := by decide +kernel
theorem kx_173 : kc_173 = (kc_173.drop 0).take 8 := rfl
theorem kd_173 : ∀ ch ∈ kr_173.1, ∀ q ∈ ch, decode kr_173.2.2.2.2.1 q.1 = .ok q.2 := by
  show ∀ ch ∈ kc_173, ∀ q ∈ ch, decode cX12_put q.1 = .ok q.2
  rw [kx_173]
  exact (k_decL_ok kd_173_0)
theorem ke_173 : k_ents kr_173.2.2.2.1.cls kr_173.2.1 [[1273], [1274]] = true := by decide +kernel
theorem ko_173 : k_recP kr_173 := k_rec_ok k_okm kd_173 ke_173 (by decide +kernel)
theorem kd_174_0 : k_decL cX12_feed ((kc_174.drop 0).take 8) = true := by decide +kernel
theorem kx_174 : kc_174 = (kc_174.drop 0).take 8 := rfl
theorem kd_174 : ∀ ch ∈ kr_174.1, ∀ q ∈ ch, decode kr_174.2.2.2.2.1 q.1 = .ok q.2 := by
  show ∀ ch ∈ kc_174, ∀ q ∈ ch, decode cX12_feed q.1 = .ok q.2
  rw [kx_174]
  exact (k_decL_ok kd_174_0)
theorem ke_174 : k_ents kr_174.2.2.2.1.cls kr_174.2.1 [[1274], [1520, 1522, 49], [1524, 1526, 50]] = true := by decide +kernel
theorem ko_174 : k_recP kr_174 := k_rec_ok k_okm kd_174 ke_174 (by decide +kernel)
theorem kd_175_0 : k_decL cX12_end ((kc_175.drop 0).take 8) = true := by decide +kernel
theorem kx_175 : kc_175 = (kc_175.drop 0).take 8 := rfl
theorem kd_175 : ∀ ch ∈ kr_175.1, ∀ q ∈ ch, decode kr_175.2.2.2.2.1 q.1 = .ok q.2 := by
  show ∀ ch ∈ kc_175, ∀ q ∈ ch, decode cX12_end q.1 = .ok q.2
  rw [kx_175]
  exact (k_decL_ok kd_175_0)
theorem ke_175 : k_ents kr_175.2.2.2.1.cls kr_175.2.1 [[1274], [1520, 1522, 49]] = true := by decide +kernel
theorem ko_175 : k_recP kr_175 := k_rec_ok k_okm kd_175 ke_175 (by decide +kernel)
theorem kd_180_0 : k_decL cX12_ahead ((kc_180.drop 0).take 8) = true := by decide +kernel
theorem kd_180_8 : k_decL cX12_ahead ((kc_180.drop 8).take 8) = true := by decide +kernel
theorem kd_180_16 : k_decL cX12_ahead ((kc_180.drop 16).take 8) = true := by decide +kernel
theorem kd_180_24 : k_decL cX12_ahead ((kc_180.drop 24).take 8) = true := by decide +kernel
theorem kx_180 : kc_180 = (kc_180.drop 0).take 8 ++ ((kc_180.drop 8).take 8 ++ ((kc_180.drop 16).take 8 ++ ((kc_180.drop 24).take 8))) := rfl
theorem kd_180 : ∀ ch ∈ kr_180.1, ∀ q ∈ ch, decode kr_180.2.2.2.2.1 q.1 = .ok q.2 := by
  show ∀ ch ∈ kc_180, ∀ q ∈ ch, decode cX12_ahead q.1 = .ok q.2
  rw [kx_180]
  exact (k_dec_app (k_decL_ok kd_180_0) (k_dec_app (k_decL_ok kd_180_8) (k_dec_app (k_decL_ok kd_180_16) (k_decL_ok kd_180_24))))
theorem ke_180 : k_ents kr_180.2.2.2.1.cls kr_180.2.1 [[1273], [1275], [1276], [1277], [1278], [1279], [1280], [1281], [1286], [1546]] = true := by decide +kernel
theorem ko_180 : k_recP kr_180 := k_rec_ok k_okm kd_180 ke_180 (by decide +kernel)
theorem kd_185_0 : k_decL cX12_manyOf ((kc_185.drop 0).take 8) = true := by decide +kernel
theorem kx_185 : kc_185 = (kc_185.drop 0).take 8 := rfl
theorem kd_185 : ∀ ch ∈ kr_185.1, ∀ q ∈ ch, decode kr_185.2.2.2.2.1 q.1 = .ok q.2 := by
  show ∀ ch ∈ kc_185, ∀ q ∈ ch, decode cX12_manyOf q.1 = .ok q.2
  rw [kx_185]
  exact (k_decL_ok kd_185_0)
theorem ke_185 : k_ents kr_185.2.2.2.1.cls kr_185.2.1 [[1288], [1292]] = true := by decide +kernel
theorem ko_185 : k_recP kr_185 := k_rec_ok k_okm kd_185 ke_185 (by decide +kernel)
theorem kd_216_0 : k_decL cX12_town ((kc_216.drop 0).take 8) = true := by decide +kernel
theorem kd_216_8 : k_decL cX12_town ((kc_216.drop 8).take 8) = true := by decide +kernel
theorem kx_216 : kc_216 = (kc_216.drop 0).take 8 ++ ((kc_216.drop 8).take 8) := rfl
theorem kd_216 : ∀ ch ∈ kr_216.1, ∀ q ∈ ch, decode kr_216.2.2.2.2.1 q.1 = .ok q.2 := by
  show ∀ ch ∈ kc_216, ∀ q ∈ ch, decode cX12_town q.1 = .ok q.2
  rw [kx_216]
  exact (k_dec_app (k_decL_ok kd_216_0) (k_decL_ok kd_216_8))
theorem ke_216 : k_ents kr_216.2.2.2.1.cls kr_216.2.1 [[1274], [1275], [1276], [1278], [1282], [1283], [1284], [1285], [1287], [1288], [1292], [1298], [1300], [1302], [1303], [1308], [1309], [1520, 1522, 49], [1536, 1538, 51], [1720, 1722, 87]] = true := by decide +kernel
theorem ko_216 : k_recP kr_216 := k_rec_ok k_okm kd_216 ke_216 (by decide +kernel)
theorem kd_217_0 : k_decL cX12_fault ((kc_217.drop 0).take 8) = true := by decide +kernel
theorem kx_217 : kc_217 = (kc_217.drop 0).take 8 := rfl
theorem kd_217 : ∀ ch ∈ kr_217.1, ∀ q ∈ ch, decode kr_217.2.2.2.2.1 q.1 = .ok q.2 := by
  show ∀ ch ∈ kc_217, ∀ q ∈ ch, decode cX12_fault q.1 = .ok q.2
  rw [kx_217]
  exact (k_decL_ok kd_217_0)
theorem ke_217 : k_ents kr_217.2.2.2.1.cls kr_217.2.1 [[1284], [1285]] = true := by decide +kernel
theorem ko_217 : k_recP kr_217 := k_rec_ok k_okm kd_217 ke_217 (by decide +kernel)
theorem kd_218_0 : k_decL cX12_refuses ((kc_218.drop 0).take 8) = true := by decide +kernel
theorem kx_218 : kc_218 = (kc_218.drop 0).take 8 := rfl
theorem kd_218 : ∀ ch ∈ kr_218.1, ∀ q ∈ ch, decode kr_218.2.2.2.2.1 q.1 = .ok q.2 := by
  show ∀ ch ∈ kc_218, ∀ q ∈ ch, decode cX12_refuses q.1 = .ok q.2
  rw [kx_218]
  exact (k_decL_ok kd_218_0)
theorem ke_218 : k_ents kr_218.2.2.2.1.cls kr_218.2.1 [[1320]] = true := by decide +kernel
theorem ko_218 : k_recP kr_218 := k_rec_ok k_okm kd_218 ke_218 (by decide +kernel)
theorem kd_219_0 : k_decL cX12_status ((kc_219.drop 0).take 8) = true := by decide +kernel
theorem kx_219 : kc_219 = (kc_219.drop 0).take 8 := rfl
theorem kd_219 : ∀ ch ∈ kr_219.1, ∀ q ∈ ch, decode kr_219.2.2.2.2.1 q.1 = .ok q.2 := by
  show ∀ ch ∈ kc_219, ∀ q ∈ ch, decode cX12_status q.1 = .ok q.2
  rw [kx_219]
  exact (k_decL_ok kd_219_0)
theorem ke_219 : k_ents kr_219.2.2.2.1.cls kr_219.2.1 [[1320], [1623, 1624]] = true := by decide +kernel
theorem ko_219 : k_recP kr_219 := k_rec_ok k_okm kd_219 ke_219 (by decide +kernel)
theorem kd_220_0 : k_decL cX12_isRoom ((kc_220.drop 0).take 8) = true := by decide +kernel
theorem kx_220 : kc_220 = (kc_220.drop 0).take 8 := rfl
theorem kd_220 : ∀ ch ∈ kr_220.1, ∀ q ∈ ch, decode kr_220.2.2.2.2.1 q.1 = .ok q.2 := by
  show ∀ ch ∈ kc_220, ∀ q ∈ ch, decode cX12_isRoom q.1 = .ok q.2
  rw [kx_220]
  exact (k_decL_ok kd_220_0)
theorem ke_220 : k_ents kr_220.2.2.2.1.cls kr_220.2.1 [[1287], [1288]] = true := by decide +kernel
theorem ko_220 : k_recP kr_220 := k_rec_ok k_okm kd_220 ke_220 (by decide +kernel)
theorem kd_221_0 : k_decL cX12_isPerson ((kc_221.drop 0).take 8) = true := by decide +kernel
theorem kx_221 : kc_221 = (kc_221.drop 0).take 8 := rfl
theorem kd_221 : ∀ ch ∈ kr_221.1, ∀ q ∈ ch, decode kr_221.2.2.2.2.1 q.1 = .ok q.2 := by
  show ∀ ch ∈ kc_221, ∀ q ∈ ch, decode cX12_isPerson q.1 = .ok q.2
  rw [kx_221]
  exact (k_decL_ok kd_221_0)
theorem ke_221 : k_ents kr_221.2.2.2.1.cls kr_221.2.1 [[1287], [1292]] = true := by decide +kernel
theorem ko_221 : k_recP kr_221 := k_rec_ok k_okm kd_221 ke_221 (by decide +kernel)
theorem kd_224_0 : k_decL cX12_copies ((kc_224.drop 0).take 8) = true := by decide +kernel
theorem kd_224_8 : k_decL cX12_copies ((kc_224.drop 8).take 8) = true := by decide +kernel
theorem kx_224 : kc_224 = (kc_224.drop 0).take 8 ++ ((kc_224.drop 8).take 8) := rfl
theorem kd_224 : ∀ ch ∈ kr_224.1, ∀ q ∈ ch, decode kr_224.2.2.2.2.1 q.1 = .ok q.2 := by
  show ∀ ch ∈ kc_224, ∀ q ∈ ch, decode cX12_copies q.1 = .ok q.2
  rw [kx_224]
  exact (k_dec_app (k_decL_ok kd_224_0) (k_decL_ok kd_224_8))
theorem ke_224 : k_ents kr_224.2.2.2.1.cls kr_224.2.1 [[1321], [1322], [1323], [1324], [1325], [1326], [1327], [1328], [1329], [1330]] = true := by decide +kernel
theorem ko_224 : k_recP kr_224 := k_rec_ok k_okm kd_224 ke_224 (by decide +kernel)
theorem kd_225_0 : k_decL cX12_begin ((kc_225.drop 0).take 8) = true := by decide +kernel
theorem kx_225 : kc_225 = (kc_225.drop 0).take 8 := rfl
theorem kd_225 : ∀ ch ∈ kr_225.1, ∀ q ∈ ch, decode kr_225.2.2.2.2.1 q.1 = .ok q.2 := by
  show ∀ ch ∈ kc_225, ∀ q ∈ ch, decode cX12_begin q.1 = .ok q.2
  rw [kx_225]
  exact (k_decL_ok kd_225_0)
theorem ke_225 : k_ents kr_225.2.2.2.1.cls kr_225.2.1 [[1287], [1296], [1321], [1322], [1323], [1324], [1325], [1326], [1332], [1341], [1343]] = true := by decide +kernel
theorem ko_225 : k_recP kr_225 := k_rec_ok k_okm kd_225 ke_225 (by decide +kernel)
theorem kd_226_0 : k_decL cX12_ring ((kc_226.drop 0).take 8) = true := by decide +kernel
theorem kx_226 : kc_226 = (kc_226.drop 0).take 8 := rfl
theorem kd_226 : ∀ ch ∈ kr_226.1, ∀ q ∈ ch, decode kr_226.2.2.2.2.1 q.1 = .ok q.2 := by
  show ∀ ch ∈ kc_226, ∀ q ∈ ch, decode cX12_ring q.1 = .ok q.2
  rw [kx_226]
  exact (k_decL_ok kd_226_0)
theorem ke_226 : k_ents kr_226.2.2.2.1.cls kr_226.2.1 [[1331]] = true := by decide +kernel
theorem ko_226 : k_recP kr_226 := k_rec_ok k_okm kd_226 ke_226 (by decide +kernel)
theorem kd_227_0 : k_decL cX12_keeps ((kc_227.drop 0).take 8) = true := by decide +kernel
theorem kx_227 : kc_227 = (kc_227.drop 0).take 8 := rfl
theorem kd_227 : ∀ ch ∈ kr_227.1, ∀ q ∈ ch, decode kr_227.2.2.2.2.1 q.1 = .ok q.2 := by
  show ∀ ch ∈ kc_227, ∀ q ∈ ch, decode cX12_keeps q.1 = .ok q.2
  rw [kx_227]
  exact (k_decL_ok kd_227_0)
theorem ke_227 : k_ents kr_227.2.2.2.1.cls kr_227.2.1 [[1331], [1332], [1736, 1738, 88], [1740, 1742, 89]] = true := by decide +kernel
theorem ko_227 : k_recP kr_227 := k_rec_ok k_okm kd_227 ke_227 (by decide +kernel)
theorem kd_228_0 : k_decL cX12_undo ((kc_228.drop 0).take 8) = true := by decide +kernel
theorem kx_228 : kc_228 = (kc_228.drop 0).take 8 := rfl
theorem kd_228 : ∀ ch ∈ kr_228.1, ∀ q ∈ ch, decode kr_228.2.2.2.2.1 q.1 = .ok q.2 := by
  show ∀ ch ∈ kc_228, ∀ q ∈ ch, decode cX12_undo q.1 = .ok q.2
  rw [kx_228]
  exact (k_decL_ok kd_228_0)
theorem ke_228 : k_ents kr_228.2.2.2.1.cls kr_228.2.1 [[1332], [1520, 1522, 49], [1736, 1738, 88], [1740, 1742, 89]] = true := by decide +kernel
theorem ko_228 : k_recP kr_228 := k_rec_ok k_okm kd_228 ke_228 (by decide +kernel)
theorem kd_246_0 : k_decL cX12_has ((kc_246.drop 0).take 8) = true := by decide +kernel
theorem kd_246_8 : k_decL cX12_has ((kc_246.drop 8).take 8) = true := by decide +kernel
theorem kd_246_16 : k_decL cX12_has ((kc_246.drop 16).take 8) = true := by decide +kernel
theorem kx_246 : kc_246 = (kc_246.drop 0).take 8 ++ ((kc_246.drop 8).take 8 ++ ((kc_246.drop 16).take 8)) := rfl
theorem kd_246 : ∀ ch ∈ kr_246.1, ∀ q ∈ ch, decode kr_246.2.2.2.2.1 q.1 = .ok q.2 := by
  show ∀ ch ∈ kc_246, ∀ q ∈ ch, decode cX12_has q.1 = .ok q.2
  rw [kx_246]
  exact (k_dec_app (k_decL_ok kd_246_0) (k_dec_app (k_decL_ok kd_246_8) (k_decL_ok kd_246_16)))
theorem ke_246 : k_ents kr_246.2.2.2.1.cls kr_246.2.1 [[1287], [1288], [1292], [1302], [1303], [1323], [1324], [1325], [1326], [1332], [1333]] = true := by decide +kernel
theorem ko_246 : k_recP kr_246 := k_rec_ok k_okm kd_246 ke_246 (by decide +kernel)
theorem kd_247_0 : k_decL cX12_letter ((kc_247.drop 0).take 8) = true := by decide +kernel
theorem kx_247 : kc_247 = (kc_247.drop 0).take 8 := rfl
theorem kd_247 : ∀ ch ∈ kr_247.1, ∀ q ∈ ch, decode kr_247.2.2.2.2.1 q.1 = .ok q.2 := by
  show ∀ ch ∈ kc_247, ∀ q ∈ ch, decode cX12_letter q.1 = .ok q.2
  rw [kx_247]
  exact (k_decL_ok kd_247_0)
theorem ke_247 : k_ents kr_247.2.2.2.1.cls kr_247.2.1 [[1287], [1607, 1609, 61], [1623, 1624], [1764]] = true := by decide +kernel
theorem ko_247 : k_recP kr_247 := k_rec_ok k_okm kd_247 ke_247 (by decide +kernel)
end
section
theorem kd_248_0 : k_decL cX12_room ((kc_248.drop 0).take 8) = true := by decide +kernel
theorem kd_248_8 : k_decL cX12_room ((kc_248.drop 8).take 8) = true := by decide +kernel
theorem kx_248 : kc_248 = (kc_248.drop 0).take 8 ++ ((kc_248.drop 8).take 8) := rfl
theorem kd_248 : ∀ ch ∈ kr_248.1, ∀ q ∈ ch, decode kr_248.2.2.2.2.1 q.1 = .ok q.2 := by
  show ∀ ch ∈ kc_248, ∀ q ∈ ch, decode cX12_room q.1 = .ok q.2
  rw [kx_248]
  exact (k_dec_app (k_decL_ok kd_248_0) (k_decL_ok kd_248_8))
theorem ke_248 : k_ents kr_248.2.2.2.1.cls kr_248.2.1 [[1287], [1289], [1290], [1292], [1321], [1322], [1769, 1771, 93]] = true := by decide +kernel
theorem ko_248 : k_recP kr_248 := k_rec_ok k_okm kd_248 ke_248 (by decide +kernel)
theorem kd_249_0 : k_decL cX12_way ((kc_249.drop 0).take 8) = true := by decide +kernel
theorem kx_249 : kc_249 = (kc_249.drop 0).take 8 := rfl
theorem kd_249 : ∀ ch ∈ kr_249.1, ∀ q ∈ ch, decode kr_249.2.2.2.2.1 q.1 = .ok q.2 := by
  show ∀ ch ∈ kc_249, ∀ q ∈ ch, decode cX12_way q.1 = .ok q.2
  rw [kx_249]
  exact (k_decL_ok kd_249_0)
theorem ke_249 : k_ents kr_249.2.2.2.1.cls kr_249.2.1 [[1769, 1771, 93]] = true := by decide +kernel
theorem ko_249 : k_recP kr_249 := k_rec_ok k_okm kd_249 ke_249 (by decide +kernel)
theorem kd_250_0 : k_decL cX12_person ((kc_250.drop 0).take 8) = true := by decide +kernel
theorem kd_250_8 : k_decL cX12_person ((kc_250.drop 8).take 8) = true := by decide +kernel
theorem kx_250 : kc_250 = (kc_250.drop 0).take 8 ++ ((kc_250.drop 8).take 8) := rfl
theorem kd_250 : ∀ ch ∈ kr_250.1, ∀ q ∈ ch, decode kr_250.2.2.2.2.1 q.1 = .ok q.2 := by
  show ∀ ch ∈ kc_250, ∀ q ∈ ch, decode cX12_person q.1 = .ok q.2
  rw [kx_250]
  exact (k_dec_app (k_decL_ok kd_250_0) (k_decL_ok kd_250_8))
theorem ke_250 : k_ents kr_250.2.2.2.1.cls kr_250.2.1 [[1287], [1293], [1294], [1321], [1322], [1323], [1324], [1325], [1793, 1795, 97]] = true := by decide +kernel
theorem ko_250 : k_recP kr_250 := k_rec_ok k_okm kd_250 ke_250 (by decide +kernel)
theorem kd_251_0 : k_decL cX12_fits ((kc_251.drop 0).take 8) = true := by decide +kernel
theorem kx_251 : kc_251 = (kc_251.drop 0).take 8 := rfl
theorem kd_251 : ∀ ch ∈ kr_251.1, ∀ q ∈ ch, decode kr_251.2.2.2.2.1 q.1 = .ok q.2 := by
  show ∀ ch ∈ kc_251, ∀ q ∈ ch, decode cX12_fits q.1 = .ok q.2
  rw [kx_251]
  exact (k_decL_ok kd_251_0)
theorem ke_251 : k_ents kr_251.2.2.2.1.cls kr_251.2.1 [[1322], [1769, 1771, 93], [1793, 1795, 97]] = true := by decide +kernel
theorem ko_251 : k_recP kr_251 := k_rec_ok k_okm kd_251 ke_251 (by decide +kernel)
theorem kd_253_0 : k_decL cX12_canGo ((kc_253.drop 0).take 8) = true := by decide +kernel
theorem kx_253 : kc_253 = (kc_253.drop 0).take 8 := rfl
theorem kd_253 : ∀ ch ∈ kr_253.1, ∀ q ∈ ch, decode kr_253.2.2.2.2.1 q.1 = .ok q.2 := by
  show ∀ ch ∈ kc_253, ∀ q ∈ ch, decode cX12_canGo q.1 = .ok q.2
  rw [kx_253]
  exact (k_decL_ok kd_253_0)
theorem ke_253 : k_ents kr_253.2.2.2.1.cls kr_253.2.1 [[1321], [1769, 1771, 93], [1793, 1795, 97]] = true := by decide +kernel
theorem ko_253 : k_recP kr_253 := k_rec_ok k_okm kd_253 ke_253 (by decide +kernel)
theorem kd_255_0 : k_decL cX12_takes ((kc_255.drop 0).take 8) = true := by decide +kernel
theorem kx_255 : kc_255 = (kc_255.drop 0).take 8 := rfl
theorem kd_255 : ∀ ch ∈ kr_255.1, ∀ q ∈ ch, decode kr_255.2.2.2.2.1 q.1 = .ok q.2 := by
  show ∀ ch ∈ kc_255, ∀ q ∈ ch, decode cX12_takes q.1 = .ok q.2
  rw [kx_255]
  exact (k_decL_ok kd_255_0)
theorem ke_255 : k_ents kr_255.2.2.2.1.cls kr_255.2.1 [[1817, 1819, 101]] = true := by decide +kernel
theorem ko_255 : k_recP kr_255 := k_rec_ok k_okm kd_255 ke_255 (by decide +kernel)
theorem kd_260_0 : k_decL cX12_go ((kc_260.drop 0).take 8) = true := by decide +kernel
theorem kx_260 : kc_260 = (kc_260.drop 0).take 8 := rfl
theorem kd_260 : ∀ ch ∈ kr_260.1, ∀ q ∈ ch, decode kr_260.2.2.2.2.1 q.1 = .ok q.2 := by
  show ∀ ch ∈ kc_260, ∀ q ∈ ch, decode cX12_go q.1 = .ok q.2
  rw [kx_260]
  exact (k_decL_ok kd_260_0)
theorem ke_260 : k_ents kr_260.2.2.2.1.cls kr_260.2.1 [[1324], [1520, 1522, 49], [1817, 1819, 101], [1860, 1862, 107]] = true := by decide +kernel
theorem ko_260 : k_recP kr_260 := k_rec_ok k_okm kd_260 ke_260 (by decide +kernel)
theorem kd_262_0 : k_decL cX12_stay ((kc_262.drop 0).take 8) = true := by decide +kernel
theorem kx_262 : kc_262 = (kc_262.drop 0).take 8 := rfl
theorem kd_262 : ∀ ch ∈ kr_262.1, ∀ q ∈ ch, decode kr_262.2.2.2.2.1 q.1 = .ok q.2 := by
  show ∀ ch ∈ kc_262, ∀ q ∈ ch, decode cX12_stay q.1 = .ok q.2
  rw [kx_262]
  exact (k_decL_ok kd_262_0)
theorem ke_262 : k_ents kr_262.2.2.2.1.cls kr_262.2.1 [[1325], [1520, 1522, 49], [1623, 1624], [1793, 1795, 97], [1860, 1862, 107]] = true := by decide +kernel
theorem ko_262 : k_recP kr_262 := k_rec_ok k_okm kd_262 ke_262 (by decide +kernel)
theorem kd_263_0 : k_decL cX12_mend ((kc_263.drop 0).take 8) = true := by decide +kernel
theorem kx_263 : kc_263 = (kc_263.drop 0).take 8 := rfl
theorem kd_263 : ∀ ch ∈ kr_263.1, ∀ q ∈ ch, decode kr_263.2.2.2.2.1 q.1 = .ok q.2 := by
  show ∀ ch ∈ kc_263, ∀ q ∈ ch, decode cX12_mend q.1 = .ok q.2
  rw [kx_263]
  exact (k_decL_ok kd_263_0)
theorem ke_263 : k_ents kr_263.2.2.2.1.cls kr_263.2.1 [[1287], [1303], [1321], [1322], [1323], [1520, 1522, 49], [1793, 1795, 97], [1860, 1862, 107]] = true := by decide +kernel
theorem ko_263 : k_recP kr_263 := k_rec_ok k_okm kd_263 ke_263 (by decide +kernel)
theorem kd_266_0 : k_decL cX12_days ((kc_266.drop 0).take 8) = true := by decide +kernel
theorem kx_266 : kc_266 = (kc_266.drop 0).take 8 := rfl
theorem kd_266 : ∀ ch ∈ kr_266.1, ∀ q ∈ ch, decode kr_266.2.2.2.2.1 q.1 = .ok q.2 := by
  show ∀ ch ∈ kc_266, ∀ q ∈ ch, decode cX12_days q.1 = .ok q.2
  rw [kx_266]
  exact (k_decL_ok kd_266_0)
theorem ke_266 : k_ents kr_266.2.2.2.1.cls kr_266.2.1 [[1287], [1292], [1520, 1522, 49], [1623, 1624], [1860, 1862, 107]] = true := by decide +kernel
theorem ko_266 : k_recP kr_266 := k_rec_ok k_okm kd_266 ke_266 (by decide +kernel)
theorem kd_267_0 : k_decL cX12_seed ((kc_267.drop 0).take 8) = true := by decide +kernel
theorem kx_267 : kc_267 = (kc_267.drop 0).take 8 := rfl
theorem kd_267 : ∀ ch ∈ kr_267.1, ∀ q ∈ ch, decode kr_267.2.2.2.2.1 q.1 = .ok q.2 := by
  show ∀ ch ∈ kc_267, ∀ q ∈ ch, decode cX12_seed q.1 = .ok q.2
  rw [kx_267]
  exact (k_decL_ok kd_267_0)
theorem ke_267 : k_ents kr_267.2.2.2.1.cls kr_267.2.1 [[1333], [1520, 1522, 49]] = true := by decide +kernel
theorem ko_267 : k_recP kr_267 := k_rec_ok k_okm kd_267 ke_267 (by decide +kernel)
theorem kd_268_0 : k_decL cX12_kept ((kc_268.drop 0).take 8) = true := by decide +kernel
theorem kx_268 : kc_268 = (kc_268.drop 0).take 8 := rfl
theorem kd_268 : ∀ ch ∈ kr_268.1, ∀ q ∈ ch, decode kr_268.2.2.2.2.1 q.1 = .ok q.2 := by
  show ∀ ch ∈ kc_268, ∀ q ∈ ch, decode cX12_kept q.1 = .ok q.2
  rw [kx_268]
  exact (k_decL_ok kd_268_0)
theorem ke_268 : k_ents kr_268.2.2.2.1.cls kr_268.2.1 [[1326], [1327], [1328], [1329], [1330], [1623, 1624]] = true := by decide +kernel
theorem ko_268 : k_recP kr_268 := k_rec_ok k_okm kd_268 ke_268 (by decide +kernel)
theorem kd_272_0 : k_decL cX12_routing ((kc_272.drop 0).take 8) = true := by decide +kernel
theorem kd_272_8 : k_decL cX12_routing ((kc_272.drop 8).take 8) = true := by decide +kernel
theorem kx_272 : kc_272 = (kc_272.drop 0).take 8 ++ ((kc_272.drop 8).take 8) := rfl
theorem kd_272 : ∀ ch ∈ kr_272.1, ∀ q ∈ ch, decode kr_272.2.2.2.2.1 q.1 = .ok q.2 := by
  show ∀ ch ∈ kc_272, ∀ q ∈ ch, decode cX12_routing q.1 = .ok q.2
  rw [kx_272]
  exact (k_dec_app (k_decL_ok kd_272_0) (k_decL_ok kd_272_8))
theorem ke_272 : k_ents kr_272.2.2.2.1.cls kr_272.2.1 [[1322], [1323], [1339], [1340], [1769, 1771, 93], [1793, 1795, 97], [1933]] = true := by decide +kernel
theorem ko_272 : k_recP kr_272 := k_rec_ok k_okm kd_272 ke_272 (by decide +kernel)
theorem kd_273_0 : k_decL cX12_route ((kc_273.drop 0).take 8) = true := by decide +kernel
theorem kx_273 : kc_273 = (kc_273.drop 0).take 8 := rfl
theorem kd_273 : ∀ ch ∈ kr_273.1, ∀ q ∈ ch, decode kr_273.2.2.2.2.1 q.1 = .ok q.2 := by
  show ∀ ch ∈ kc_273, ∀ q ∈ ch, decode cX12_route q.1 = .ok q.2
  rw [kx_273]
  exact (k_decL_ok kd_273_0)
theorem ke_273 : k_ents kr_273.2.2.2.1.cls kr_273.2.1 [[1793, 1795, 97], [1925, 1927, 116]] = true := by decide +kernel
theorem ko_273 : k_recP kr_273 := k_rec_ok k_okm kd_273 ke_273 (by decide +kernel)
theorem kd_274_0 : k_decL cX12_bearer ((kc_274.drop 0).take 8) = true := by decide +kernel
theorem kx_274 : kc_274 = (kc_274.drop 0).take 8 := rfl
theorem kd_274 : ∀ ch ∈ kr_274.1, ∀ q ∈ ch, decode kr_274.2.2.2.2.1 q.1 = .ok q.2 := by
  show ∀ ch ∈ kc_274, ∀ q ∈ ch, decode cX12_bearer q.1 = .ok q.2
  rw [kx_274]
  exact (k_decL_ok kd_274_0)
theorem ke_274 : k_ents kr_274.2.2.2.1.cls kr_274.2.1 [[1925, 1927, 116]] = true := by decide +kernel
theorem ko_274 : k_recP kr_274 := k_rec_ok k_okm kd_274 ke_274 (by decide +kernel)
theorem kd_276_0 : k_decL cX12_isErrand ((kc_276.drop 0).take 8) = true := by decide +kernel
theorem kx_276 : kc_276 = (kc_276.drop 0).take 8 := rfl
theorem kd_276 : ∀ ch ∈ kr_276.1, ∀ q ∈ ch, decode kr_276.2.2.2.2.1 q.1 = .ok q.2 := by
  show ∀ ch ∈ kc_276, ∀ q ∈ ch, decode cX12_isErrand q.1 = .ok q.2
  rw [kx_276]
  exact (k_decL_ok kd_276_0)
theorem ke_276 : k_ents kr_276.2.2.2.1.cls kr_276.2.1 [[1273], [1321], [1769, 1771, 93], [1793, 1795, 97]] = true := by decide +kernel
theorem ko_276 : k_recP kr_276 := k_rec_ok k_okm kd_276 ke_276 (by decide +kernel)
theorem kd_277_0 : k_decL cX12_errand ((kc_277.drop 0).take 8) = true := by decide +kernel
theorem kd_277_8 : k_decL cX12_errand ((kc_277.drop 8).take 8) = true := by decide +kernel
theorem kx_277 : kc_277 = (kc_277.drop 0).take 8 ++ ((kc_277.drop 8).take 8) := rfl
theorem kd_277 : ∀ ch ∈ kr_277.1, ∀ q ∈ ch, decode kr_277.2.2.2.2.1 q.1 = .ok q.2 := by
  show ∀ ch ∈ kc_277, ∀ q ∈ ch, decode cX12_errand q.1 = .ok q.2
  rw [kx_277]
  exact (k_dec_app (k_decL_ok kd_277_0) (k_decL_ok kd_277_8))
theorem ke_277 : k_ents kr_277.2.2.2.1.cls kr_277.2.1 [[1274], [1341], [1342], [1520, 1522, 49], [1933], [1950, 1952, 120]] = true := by decide +kernel
theorem ko_277 : k_recP kr_277 := k_rec_ok k_okm kd_277 ke_277 (by decide +kernel)
theorem kd_278_0 : k_decL cX12_along ((kc_278.drop 0).take 8) = true := by decide +kernel
theorem kx_278 : kc_278 = (kc_278.drop 0).take 8 := rfl
theorem kd_278 : ∀ ch ∈ kr_278.1, ∀ q ∈ ch, decode kr_278.2.2.2.2.1 q.1 = .ok q.2 := by
  show ∀ ch ∈ kc_278, ∀ q ∈ ch, decode cX12_along q.1 = .ok q.2
  rw [kx_278]
  exact (k_decL_ok kd_278_0)
theorem ke_278 : k_ents kr_278.2.2.2.1.cls kr_278.2.1 [[1341], [1342], [1623, 1624]] = true := by decide +kernel
theorem ko_278 : k_recP kr_278 := k_rec_ok k_okm kd_278 ke_278 (by decide +kernel)
theorem kd_280_0 : k_decL cX12_seated ((kc_280.drop 0).take 8) = true := by decide +kernel
theorem kx_280 : kc_280 = (kc_280.drop 0).take 8 := rfl
theorem kd_280 : ∀ ch ∈ kr_280.1, ∀ q ∈ ch, decode kr_280.2.2.2.2.1 q.1 = .ok q.2 := by
  show ∀ ch ∈ kc_280, ∀ q ∈ ch, decode cX12_seated q.1 = .ok q.2
  rw [kx_280]
  exact (k_decL_ok kd_280_0)
theorem ke_280 : k_ents kr_280.2.2.2.1.cls kr_280.2.1 [[1287], [1292], [1623, 1624], [1769, 1771, 93]] = true := by decide +kernel
theorem ko_280 : k_recP kr_280 := k_rec_ok k_okm kd_280 ke_280 (by decide +kernel)
theorem kd_283_0 : k_decL cX12_isStanding ((kc_283.drop 0).take 8) = true := by decide +kernel
theorem kx_283 : kc_283 = (kc_283.drop 0).take 8 := rfl
theorem kd_283 : ∀ ch ∈ kr_283.1, ∀ q ∈ ch, decode kr_283.2.2.2.2.1 q.1 = .ok q.2 := by
  show ∀ ch ∈ kc_283, ∀ q ∈ ch, decode cX12_isStanding q.1 = .ok q.2
  rw [kx_283]
  exact (k_decL_ok kd_283_0)
theorem ke_283 : k_ents kr_283.2.2.2.1.cls kr_283.2.1 [[1273], [1769, 1771, 93]] = true := by decide +kernel
theorem ko_283 : k_recP kr_283 := k_rec_ok k_okm kd_283 ke_283 (by decide +kernel)
theorem kd_284_0 : k_decL cX12_standing ((kc_284.drop 0).take 8) = true := by decide +kernel
theorem kd_284_8 : k_decL cX12_standing ((kc_284.drop 8).take 8) = true := by decide +kernel
theorem kx_284 : kc_284 = (kc_284.drop 0).take 8 ++ ((kc_284.drop 8).take 8) := rfl
theorem kd_284 : ∀ ch ∈ kr_284.1, ∀ q ∈ ch, decode kr_284.2.2.2.2.1 q.1 = .ok q.2 := by
  show ∀ ch ∈ kc_284, ∀ q ∈ ch, decode cX12_standing q.1 = .ok q.2
  rw [kx_284]
  exact (k_dec_app (k_decL_ok kd_284_0) (k_decL_ok kd_284_8))
theorem ke_284 : k_ents kr_284.2.2.2.1.cls kr_284.2.1 [[1273], [1274], [1287], [1288], [1292], [1343], [1344], [1345], [1346], [1347], [1520, 1522, 49], [1980, 1982, 123]] = true := by decide +kernel
theorem ko_284 : k_recP kr_284 := k_rec_ok k_okm kd_284 ke_284 (by decide +kernel)
end
section
theorem kd_285_0 : k_decL cX12_where ((kc_285.drop 0).take 8) = true := by decide +kernel
theorem kx_285 : kc_285 = (kc_285.drop 0).take 8 := rfl
theorem kd_285 : ∀ ch ∈ kr_285.1, ∀ q ∈ ch, decode kr_285.2.2.2.2.1 q.1 = .ok q.2 := by
  show ∀ ch ∈ kc_285, ∀ q ∈ ch, decode cX12_where q.1 = .ok q.2
  rw [kx_285]
  exact (k_decL_ok kd_285_0)
theorem ke_285 : k_ents kr_285.2.2.2.1.cls kr_285.2.1 [[1343], [1344], [1769, 1771, 93], [1793, 1795, 97]] = true := by decide +kernel
theorem ko_285 : k_recP kr_285 := k_rec_ok k_okm kd_285 ke_285 (by decide +kernel)
theorem kd_286_0 : k_decL cX12_writes ((kc_286.drop 0).take 8) = true := by decide +kernel
theorem kx_286 : kc_286 = (kc_286.drop 0).take 8 := rfl
theorem kd_286 : ∀ ch ∈ kr_286.1, ∀ q ∈ ch, decode kr_286.2.2.2.2.1 q.1 = .ok q.2 := by
  show ∀ ch ∈ kc_286, ∀ q ∈ ch, decode cX12_writes q.1 = .ok q.2
  rw [kx_286]
  exact (k_decL_ok kd_286_0)
theorem ke_286 : k_ents kr_286.2.2.2.1.cls kr_286.2.1 [[1351], [1352]] = true := by decide +kernel
theorem ko_286 : k_recP kr_286 := k_rec_ok k_okm kd_286 ke_286 (by decide +kernel)
theorem kd_288_0 : k_decL cX12_image ((kc_288.drop 0).take 8) = true := by decide +kernel
theorem kx_288 : kc_288 = (kc_288.drop 0).take 8 := rfl
theorem kd_288 : ∀ ch ∈ kr_288.1, ∀ q ∈ ch, decode kr_288.2.2.2.2.1 q.1 = .ok q.2 := by
  show ∀ ch ∈ kc_288, ∀ q ∈ ch, decode cX12_image q.1 = .ok q.2
  rw [kx_288]
  exact (k_decL_ok kd_288_0)
theorem ke_288 : k_ents kr_288.2.2.2.1.cls kr_288.2.1 [[1287], [1292], [1321], [1322], [1323], [1324], [1325], [1351], [1352], [2000, 2002, 126]] = true := by decide +kernel
theorem ko_288 : k_recP kr_288 := k_rec_ok k_okm kd_288 ke_288 (by decide +kernel)
theorem kd_289_0 : k_decL cX12_octet ((kc_289.drop 0).take 8) = true := by decide +kernel
theorem kx_289 : kc_289 = (kc_289.drop 0).take 8 := rfl
theorem kd_289 : ∀ ch ∈ kr_289.1, ∀ q ∈ ch, decode kr_289.2.2.2.2.1 q.1 = .ok q.2 := by
  show ∀ ch ∈ kc_289, ∀ q ∈ ch, decode cX12_octet q.1 = .ok q.2
  rw [kx_289]
  exact (k_decL_ok kd_289_0)
theorem ke_289 : k_ents kr_289.2.2.2.1.cls kr_289.2.1 [[1351], [1352], [1623, 1624]] = true := by decide +kernel
theorem ko_289 : k_recP kr_289 := k_rec_ok k_okm kd_289 ke_289 (by decide +kernel)
theorem kd_292_0 : k_decL cX12_comesOn ((kc_292.drop 0).take 8) = true := by decide +kernel
theorem kd_292_8 : k_decL cX12_comesOn ((kc_292.drop 8).take 8) = true := by decide +kernel
theorem kx_292 : kc_292 = (kc_292.drop 0).take 8 ++ ((kc_292.drop 8).take 8) := rfl
theorem kd_292 : ∀ ch ∈ kr_292.1, ∀ q ∈ ch, decode kr_292.2.2.2.2.1 q.1 = .ok q.2 := by
  show ∀ ch ∈ kc_292, ∀ q ∈ ch, decode cX12_comesOn q.1 = .ok q.2
  rw [kx_292]
  exact (k_dec_app (k_decL_ok kd_292_0) (k_decL_ok kd_292_8))
theorem ke_292 : k_ents kr_292.2.2.2.1.cls kr_292.2.1 [[1273], [1287], [1288], [1290], [1292], [1322], [1326], [1740, 1742, 89]] = true := by decide +kernel
theorem ko_292 : k_recP kr_292 := k_rec_ok k_okm kd_292 ke_292 (by decide +kernel)
theorem kd_293_0 : k_decL cX12_on ((kc_293.drop 0).take 8) = true := by decide +kernel
theorem kx_293 : kc_293 = (kc_293.drop 0).take 8 := rfl
theorem kd_293 : ∀ ch ∈ kr_293.1, ∀ q ∈ ch, decode kr_293.2.2.2.2.1 q.1 = .ok q.2 := by
  show ∀ ch ∈ kc_293, ∀ q ∈ ch, decode cX12_on q.1 = .ok q.2
  rw [kx_293]
  exact (k_decL_ok kd_293_0)
theorem ke_293 : k_ents kr_293.2.2.2.1.cls kr_293.2.1 [[1274], [1332], [1520, 1522, 49], [1740, 1742, 89], [2016, 2018, 128]] = true := by decide +kernel
theorem ko_293 : k_recP kr_293 := k_rec_ok k_okm kd_293 ke_293 (by decide +kernel)
theorem kd_301_0 : k_decL cJ7_fill_53178 ((kc_301.drop 0).take 8) = true := by decide +kernel
theorem kx_301 : kc_301 = (kc_301.drop 0).take 8 := rfl
theorem kd_301 : ∀ ch ∈ kr_301.1, ∀ q ∈ ch, decode kr_301.2.2.2.2.1 q.1 = .ok q.2 := by
  show ∀ ch ∈ kc_301, ∀ q ∈ ch, decode cJ7_fill_53178 q.1 = .ok q.2
  rw [kx_301]
  exact (k_decL_ok kd_301_0)
theorem ke_301 : k_ents kr_301.2.2.2.1.cls kr_301.2.1 [] = true := by decide +kernel
theorem ko_301 : k_recP kr_301 := k_rec_ok k_okm kd_301 ke_301 (by decide +kernel)
end
section
theorem kw_0 : ∀ r ∈ kt_0, k_recP r := List.forall_mem_cons.mpr ⟨ko_0, List.forall_mem_cons.mpr ⟨ko_1, List.forall_mem_cons.mpr ⟨ko_2, List.forall_mem_cons.mpr ⟨k_none_ok, List.forall_mem_cons.mpr ⟨k_none_ok, List.forall_mem_cons.mpr ⟨k_none_ok, List.forall_mem_cons.mpr ⟨k_none_ok, List.forall_mem_cons.mpr ⟨k_none_ok, List.forall_mem_cons.mpr ⟨k_none_ok, List.forall_mem_cons.mpr ⟨ko_9, List.forall_mem_cons.mpr ⟨k_none_ok, List.forall_mem_cons.mpr ⟨k_none_ok, List.forall_mem_cons.mpr ⟨k_none_ok, List.forall_mem_cons.mpr ⟨k_none_ok, List.forall_mem_cons.mpr ⟨k_none_ok, List.forall_mem_cons.mpr ⟨ko_15, fun _ h => absurd h List.not_mem_nil⟩⟩⟩⟩⟩⟩⟩⟩⟩⟩⟩⟩⟩⟩⟩⟩
theorem kw_1 : ∀ r ∈ kt_1, k_recP r := List.forall_mem_cons.mpr ⟨ko_16, List.forall_mem_cons.mpr ⟨k_none_ok, List.forall_mem_cons.mpr ⟨ko_18, List.forall_mem_cons.mpr ⟨ko_19, List.forall_mem_cons.mpr ⟨k_none_ok, List.forall_mem_cons.mpr ⟨k_none_ok, List.forall_mem_cons.mpr ⟨k_none_ok, List.forall_mem_cons.mpr ⟨k_none_ok, List.forall_mem_cons.mpr ⟨k_none_ok, List.forall_mem_cons.mpr ⟨ko_25, List.forall_mem_cons.mpr ⟨k_none_ok, List.forall_mem_cons.mpr ⟨k_none_ok, List.forall_mem_cons.mpr ⟨k_none_ok, List.forall_mem_cons.mpr ⟨k_none_ok, List.forall_mem_cons.mpr ⟨k_none_ok, List.forall_mem_cons.mpr ⟨k_none_ok, fun _ h => absurd h List.not_mem_nil⟩⟩⟩⟩⟩⟩⟩⟩⟩⟩⟩⟩⟩⟩⟩⟩
theorem kw_2 : ∀ r ∈ kt_2, k_recP r := List.forall_mem_cons.mpr ⟨ko_32, List.forall_mem_cons.mpr ⟨k_none_ok, List.forall_mem_cons.mpr ⟨k_none_ok, List.forall_mem_cons.mpr ⟨k_none_ok, List.forall_mem_cons.mpr ⟨k_none_ok, List.forall_mem_cons.mpr ⟨k_none_ok, List.forall_mem_cons.mpr ⟨k_none_ok, List.forall_mem_cons.mpr ⟨k_none_ok, List.forall_mem_cons.mpr ⟨k_none_ok, List.forall_mem_cons.mpr ⟨ko_41, List.forall_mem_cons.mpr ⟨ko_42, List.forall_mem_cons.mpr ⟨k_none_ok, List.forall_mem_cons.mpr ⟨k_none_ok, List.forall_mem_cons.mpr ⟨k_none_ok, List.forall_mem_cons.mpr ⟨k_none_ok, List.forall_mem_cons.mpr ⟨k_none_ok, fun _ h => absurd h List.not_mem_nil⟩⟩⟩⟩⟩⟩⟩⟩⟩⟩⟩⟩⟩⟩⟩⟩
theorem kw_3 : ∀ r ∈ kt_3, k_recP r := List.forall_mem_cons.mpr ⟨ko_48, List.forall_mem_cons.mpr ⟨ko_49, List.forall_mem_cons.mpr ⟨ko_50, List.forall_mem_cons.mpr ⟨ko_51, List.forall_mem_cons.mpr ⟨ko_52, List.forall_mem_cons.mpr ⟨k_none_ok, List.forall_mem_cons.mpr ⟨k_none_ok, List.forall_mem_cons.mpr ⟨k_none_ok, List.forall_mem_cons.mpr ⟨k_none_ok, List.forall_mem_cons.mpr ⟨k_none_ok, List.forall_mem_cons.mpr ⟨k_none_ok, List.forall_mem_cons.mpr ⟨k_none_ok, List.forall_mem_cons.mpr ⟨k_none_ok, List.forall_mem_cons.mpr ⟨ko_61, List.forall_mem_cons.mpr ⟨k_none_ok, List.forall_mem_cons.mpr ⟨k_none_ok, fun _ h => absurd h List.not_mem_nil⟩⟩⟩⟩⟩⟩⟩⟩⟩⟩⟩⟩⟩⟩⟩⟩
theorem kw_4 : ∀ r ∈ kt_4, k_recP r := List.forall_mem_cons.mpr ⟨k_none_ok, List.forall_mem_cons.mpr ⟨k_none_ok, List.forall_mem_cons.mpr ⟨k_none_ok, List.forall_mem_cons.mpr ⟨ko_67, List.forall_mem_cons.mpr ⟨k_none_ok, List.forall_mem_cons.mpr ⟨k_none_ok, List.forall_mem_cons.mpr ⟨ko_70, List.forall_mem_cons.mpr ⟨k_none_ok, List.forall_mem_cons.mpr ⟨ko_72, List.forall_mem_cons.mpr ⟨k_none_ok, List.forall_mem_cons.mpr ⟨ko_74, List.forall_mem_cons.mpr ⟨k_none_ok, List.forall_mem_cons.mpr ⟨k_none_ok, List.forall_mem_cons.mpr ⟨k_none_ok, List.forall_mem_cons.mpr ⟨ko_78, List.forall_mem_cons.mpr ⟨k_none_ok, fun _ h => absurd h List.not_mem_nil⟩⟩⟩⟩⟩⟩⟩⟩⟩⟩⟩⟩⟩⟩⟩⟩
theorem kw_5 : ∀ r ∈ kt_5, k_recP r := List.forall_mem_cons.mpr ⟨k_none_ok, List.forall_mem_cons.mpr ⟨ko_81, List.forall_mem_cons.mpr ⟨k_none_ok, List.forall_mem_cons.mpr ⟨k_none_ok, List.forall_mem_cons.mpr ⟨k_none_ok, List.forall_mem_cons.mpr ⟨k_none_ok, List.forall_mem_cons.mpr ⟨k_none_ok, List.forall_mem_cons.mpr ⟨k_none_ok, List.forall_mem_cons.mpr ⟨ko_88, List.forall_mem_cons.mpr ⟨k_none_ok, List.forall_mem_cons.mpr ⟨k_none_ok, List.forall_mem_cons.mpr ⟨k_none_ok, List.forall_mem_cons.mpr ⟨k_none_ok, List.forall_mem_cons.mpr ⟨k_none_ok, List.forall_mem_cons.mpr ⟨k_none_ok, List.forall_mem_cons.mpr ⟨k_none_ok, fun _ h => absurd h List.not_mem_nil⟩⟩⟩⟩⟩⟩⟩⟩⟩⟩⟩⟩⟩⟩⟩⟩
theorem kw_6 : ∀ r ∈ kt_6, k_recP r := List.forall_mem_cons.mpr ⟨k_none_ok, List.forall_mem_cons.mpr ⟨k_none_ok, List.forall_mem_cons.mpr ⟨k_none_ok, List.forall_mem_cons.mpr ⟨k_none_ok, List.forall_mem_cons.mpr ⟨k_none_ok, List.forall_mem_cons.mpr ⟨k_none_ok, List.forall_mem_cons.mpr ⟨ko_102, List.forall_mem_cons.mpr ⟨ko_103, List.forall_mem_cons.mpr ⟨ko_104, List.forall_mem_cons.mpr ⟨ko_105, List.forall_mem_cons.mpr ⟨ko_106, List.forall_mem_cons.mpr ⟨ko_107, List.forall_mem_cons.mpr ⟨k_none_ok, List.forall_mem_cons.mpr ⟨k_none_ok, List.forall_mem_cons.mpr ⟨k_none_ok, List.forall_mem_cons.mpr ⟨k_none_ok, fun _ h => absurd h List.not_mem_nil⟩⟩⟩⟩⟩⟩⟩⟩⟩⟩⟩⟩⟩⟩⟩⟩
theorem kw_7 : ∀ r ∈ kt_7, k_recP r := List.forall_mem_cons.mpr ⟨k_none_ok, List.forall_mem_cons.mpr ⟨k_none_ok, List.forall_mem_cons.mpr ⟨k_none_ok, List.forall_mem_cons.mpr ⟨k_none_ok, List.forall_mem_cons.mpr ⟨k_none_ok, List.forall_mem_cons.mpr ⟨ko_117, List.forall_mem_cons.mpr ⟨k_none_ok, List.forall_mem_cons.mpr ⟨k_none_ok, List.forall_mem_cons.mpr ⟨ko_120, List.forall_mem_cons.mpr ⟨ko_121, List.forall_mem_cons.mpr ⟨k_none_ok, List.forall_mem_cons.mpr ⟨k_none_ok, List.forall_mem_cons.mpr ⟨k_none_ok, List.forall_mem_cons.mpr ⟨k_none_ok, List.forall_mem_cons.mpr ⟨k_none_ok, List.forall_mem_cons.mpr ⟨k_none_ok, fun _ h => absurd h List.not_mem_nil⟩⟩⟩⟩⟩⟩⟩⟩⟩⟩⟩⟩⟩⟩⟩⟩
theorem kw_8 : ∀ r ∈ kt_8, k_recP r := List.forall_mem_cons.mpr ⟨k_none_ok, List.forall_mem_cons.mpr ⟨k_none_ok, List.forall_mem_cons.mpr ⟨k_none_ok, List.forall_mem_cons.mpr ⟨k_none_ok, List.forall_mem_cons.mpr ⟨k_none_ok, List.forall_mem_cons.mpr ⟨k_none_ok, List.forall_mem_cons.mpr ⟨k_none_ok, List.forall_mem_cons.mpr ⟨ko_135, List.forall_mem_cons.mpr ⟨ko_136, List.forall_mem_cons.mpr ⟨ko_137, List.forall_mem_cons.mpr ⟨ko_138, List.forall_mem_cons.mpr ⟨ko_139, List.forall_mem_cons.mpr ⟨ko_140, List.forall_mem_cons.mpr ⟨ko_141, List.forall_mem_cons.mpr ⟨ko_142, List.forall_mem_cons.mpr ⟨ko_143, fun _ h => absurd h List.not_mem_nil⟩⟩⟩⟩⟩⟩⟩⟩⟩⟩⟩⟩⟩⟩⟩⟩
theorem kw_9 : ∀ r ∈ kt_9, k_recP r := List.forall_mem_cons.mpr ⟨ko_144, List.forall_mem_cons.mpr ⟨ko_145, List.forall_mem_cons.mpr ⟨ko_146, List.forall_mem_cons.mpr ⟨ko_147, List.forall_mem_cons.mpr ⟨ko_148, List.forall_mem_cons.mpr ⟨ko_149, List.forall_mem_cons.mpr ⟨ko_150, List.forall_mem_cons.mpr ⟨ko_151, List.forall_mem_cons.mpr ⟨ko_152, List.forall_mem_cons.mpr ⟨ko_153, List.forall_mem_cons.mpr ⟨ko_154, List.forall_mem_cons.mpr ⟨ko_155, List.forall_mem_cons.mpr ⟨ko_156, List.forall_mem_cons.mpr ⟨ko_157, List.forall_mem_cons.mpr ⟨ko_158, List.forall_mem_cons.mpr ⟨ko_159, fun _ h => absurd h List.not_mem_nil⟩⟩⟩⟩⟩⟩⟩⟩⟩⟩⟩⟩⟩⟩⟩⟩
theorem kw_10 : ∀ r ∈ kt_10, k_recP r := List.forall_mem_cons.mpr ⟨ko_160, List.forall_mem_cons.mpr ⟨ko_161, List.forall_mem_cons.mpr ⟨ko_162, List.forall_mem_cons.mpr ⟨ko_163, List.forall_mem_cons.mpr ⟨ko_164, List.forall_mem_cons.mpr ⟨ko_165, List.forall_mem_cons.mpr ⟨k_none_ok, List.forall_mem_cons.mpr ⟨ko_167, List.forall_mem_cons.mpr ⟨k_none_ok, List.forall_mem_cons.mpr ⟨k_none_ok, List.forall_mem_cons.mpr ⟨k_none_ok, List.forall_mem_cons.mpr ⟨ko_171, List.forall_mem_cons.mpr ⟨ko_172, List.forall_mem_cons.mpr ⟨ko_173, List.forall_mem_cons.mpr ⟨ko_174, List.forall_mem_cons.mpr ⟨ko_175, fun _ h => absurd h List.not_mem_nil⟩⟩⟩⟩⟩⟩⟩⟩⟩⟩⟩⟩⟩⟩⟩⟩
theorem kw_11 : ∀ r ∈ kt_11, k_recP r := List.forall_mem_cons.mpr ⟨k_none_ok, List.forall_mem_cons.mpr ⟨k_none_ok, List.forall_mem_cons.mpr ⟨k_none_ok, List.forall_mem_cons.mpr ⟨k_none_ok, List.forall_mem_cons.mpr ⟨ko_180, List.forall_mem_cons.mpr ⟨k_none_ok, List.forall_mem_cons.mpr ⟨k_none_ok, List.forall_mem_cons.mpr ⟨k_none_ok, List.forall_mem_cons.mpr ⟨k_none_ok, List.forall_mem_cons.mpr ⟨ko_185, List.forall_mem_cons.mpr ⟨k_none_ok, List.forall_mem_cons.mpr ⟨k_none_ok, List.forall_mem_cons.mpr ⟨k_none_ok, List.forall_mem_cons.mpr ⟨k_none_ok, List.forall_mem_cons.mpr ⟨k_none_ok, List.forall_mem_cons.mpr ⟨k_none_ok, fun _ h => absurd h List.not_mem_nil⟩⟩⟩⟩⟩⟩⟩⟩⟩⟩⟩⟩⟩⟩⟩⟩
theorem kw_12 : ∀ r ∈ kt_12, k_recP r := List.forall_mem_cons.mpr ⟨k_none_ok, List.forall_mem_cons.mpr ⟨k_none_ok, List.forall_mem_cons.mpr ⟨k_none_ok, List.forall_mem_cons.mpr ⟨k_none_ok, List.forall_mem_cons.mpr ⟨k_none_ok, List.forall_mem_cons.mpr ⟨k_none_ok, List.forall_mem_cons.mpr ⟨k_none_ok, List.forall_mem_cons.mpr ⟨k_none_ok, List.forall_mem_cons.mpr ⟨k_none_ok, List.forall_mem_cons.mpr ⟨k_none_ok, List.forall_mem_cons.mpr ⟨k_none_ok, List.forall_mem_cons.mpr ⟨k_none_ok, List.forall_mem_cons.mpr ⟨k_none_ok, List.forall_mem_cons.mpr ⟨k_none_ok, List.forall_mem_cons.mpr ⟨k_none_ok, List.forall_mem_cons.mpr ⟨k_none_ok, fun _ h => absurd h List.not_mem_nil⟩⟩⟩⟩⟩⟩⟩⟩⟩⟩⟩⟩⟩⟩⟩⟩
theorem kw_13 : ∀ r ∈ kt_13, k_recP r := List.forall_mem_cons.mpr ⟨k_none_ok, List.forall_mem_cons.mpr ⟨k_none_ok, List.forall_mem_cons.mpr ⟨k_none_ok, List.forall_mem_cons.mpr ⟨k_none_ok, List.forall_mem_cons.mpr ⟨k_none_ok, List.forall_mem_cons.mpr ⟨k_none_ok, List.forall_mem_cons.mpr ⟨k_none_ok, List.forall_mem_cons.mpr ⟨k_none_ok, List.forall_mem_cons.mpr ⟨ko_216, List.forall_mem_cons.mpr ⟨ko_217, List.forall_mem_cons.mpr ⟨ko_218, List.forall_mem_cons.mpr ⟨ko_219, List.forall_mem_cons.mpr ⟨ko_220, List.forall_mem_cons.mpr ⟨ko_221, List.forall_mem_cons.mpr ⟨k_none_ok, List.forall_mem_cons.mpr ⟨k_none_ok, fun _ h => absurd h List.not_mem_nil⟩⟩⟩⟩⟩⟩⟩⟩⟩⟩⟩⟩⟩⟩⟩⟩
theorem kw_14 : ∀ r ∈ kt_14, k_recP r := List.forall_mem_cons.mpr ⟨ko_224, List.forall_mem_cons.mpr ⟨ko_225, List.forall_mem_cons.mpr ⟨ko_226, List.forall_mem_cons.mpr ⟨ko_227, List.forall_mem_cons.mpr ⟨ko_228, List.forall_mem_cons.mpr ⟨k_none_ok, List.forall_mem_cons.mpr ⟨k_none_ok, List.forall_mem_cons.mpr ⟨k_none_ok, List.forall_mem_cons.mpr ⟨k_none_ok, List.forall_mem_cons.mpr ⟨k_none_ok, List.forall_mem_cons.mpr ⟨k_none_ok, List.forall_mem_cons.mpr ⟨k_none_ok, List.forall_mem_cons.mpr ⟨k_none_ok, List.forall_mem_cons.mpr ⟨k_none_ok, List.forall_mem_cons.mpr ⟨k_none_ok, List.forall_mem_cons.mpr ⟨k_none_ok, fun _ h => absurd h List.not_mem_nil⟩⟩⟩⟩⟩⟩⟩⟩⟩⟩⟩⟩⟩⟩⟩⟩
theorem kw_15 : ∀ r ∈ kt_15, k_recP r := List.forall_mem_cons.mpr ⟨k_none_ok, List.forall_mem_cons.mpr ⟨k_none_ok, List.forall_mem_cons.mpr ⟨k_none_ok, List.forall_mem_cons.mpr ⟨k_none_ok, List.forall_mem_cons.mpr ⟨k_none_ok, List.forall_mem_cons.mpr ⟨k_none_ok, List.forall_mem_cons.mpr ⟨ko_246, List.forall_mem_cons.mpr ⟨ko_247, List.forall_mem_cons.mpr ⟨ko_248, List.forall_mem_cons.mpr ⟨ko_249, List.forall_mem_cons.mpr ⟨ko_250, List.forall_mem_cons.mpr ⟨ko_251, List.forall_mem_cons.mpr ⟨k_none_ok, List.forall_mem_cons.mpr ⟨ko_253, List.forall_mem_cons.mpr ⟨k_none_ok, List.forall_mem_cons.mpr ⟨ko_255, fun _ h => absurd h List.not_mem_nil⟩⟩⟩⟩⟩⟩⟩⟩⟩⟩⟩⟩⟩⟩⟩⟩
theorem kw_16 : ∀ r ∈ kt_16, k_recP r := List.forall_mem_cons.mpr ⟨k_none_ok, List.forall_mem_cons.mpr ⟨k_none_ok, List.forall_mem_cons.mpr ⟨k_none_ok, List.forall_mem_cons.mpr ⟨k_none_ok, List.forall_mem_cons.mpr ⟨ko_260, List.forall_mem_cons.mpr ⟨k_none_ok, List.forall_mem_cons.mpr ⟨ko_262, List.forall_mem_cons.mpr ⟨ko_263, List.forall_mem_cons.mpr ⟨k_none_ok, List.forall_mem_cons.mpr ⟨k_none_ok, List.forall_mem_cons.mpr ⟨ko_266, List.forall_mem_cons.mpr ⟨ko_267, List.forall_mem_cons.mpr ⟨ko_268, List.forall_mem_cons.mpr ⟨k_none_ok, List.forall_mem_cons.mpr ⟨k_none_ok, List.forall_mem_cons.mpr ⟨k_none_ok, fun _ h => absurd h List.not_mem_nil⟩⟩⟩⟩⟩⟩⟩⟩⟩⟩⟩⟩⟩⟩⟩⟩
theorem kw_17 : ∀ r ∈ kt_17, k_recP r := List.forall_mem_cons.mpr ⟨ko_272, List.forall_mem_cons.mpr ⟨ko_273, List.forall_mem_cons.mpr ⟨ko_274, List.forall_mem_cons.mpr ⟨k_none_ok, List.forall_mem_cons.mpr ⟨ko_276, List.forall_mem_cons.mpr ⟨ko_277, List.forall_mem_cons.mpr ⟨ko_278, List.forall_mem_cons.mpr ⟨k_none_ok, List.forall_mem_cons.mpr ⟨ko_280, List.forall_mem_cons.mpr ⟨k_none_ok, List.forall_mem_cons.mpr ⟨k_none_ok, List.forall_mem_cons.mpr ⟨ko_283, List.forall_mem_cons.mpr ⟨ko_284, List.forall_mem_cons.mpr ⟨ko_285, List.forall_mem_cons.mpr ⟨ko_286, List.forall_mem_cons.mpr ⟨k_none_ok, fun _ h => absurd h List.not_mem_nil⟩⟩⟩⟩⟩⟩⟩⟩⟩⟩⟩⟩⟩⟩⟩⟩
theorem kw_18 : ∀ r ∈ kt_18, k_recP r := List.forall_mem_cons.mpr ⟨ko_288, List.forall_mem_cons.mpr ⟨ko_289, List.forall_mem_cons.mpr ⟨k_none_ok, List.forall_mem_cons.mpr ⟨k_none_ok, List.forall_mem_cons.mpr ⟨ko_292, List.forall_mem_cons.mpr ⟨ko_293, List.forall_mem_cons.mpr ⟨k_none_ok, List.forall_mem_cons.mpr ⟨k_none_ok, List.forall_mem_cons.mpr ⟨k_none_ok, List.forall_mem_cons.mpr ⟨k_none_ok, List.forall_mem_cons.mpr ⟨k_none_ok, List.forall_mem_cons.mpr ⟨k_none_ok, List.forall_mem_cons.mpr ⟨k_none_ok, List.forall_mem_cons.mpr ⟨ko_301, List.forall_mem_cons.mpr ⟨k_none_ok, fun _ h => absurd h List.not_mem_nil⟩⟩⟩⟩⟩⟩⟩⟩⟩⟩⟩⟩⟩⟩⟩
theorem k_recs : ∀ t ∈ kT, ∀ r ∈ t, k_recP r := List.forall_mem_cons.mpr ⟨kw_0, List.forall_mem_cons.mpr ⟨kw_1, List.forall_mem_cons.mpr ⟨kw_2, List.forall_mem_cons.mpr ⟨kw_3, List.forall_mem_cons.mpr ⟨kw_4, List.forall_mem_cons.mpr ⟨kw_5, List.forall_mem_cons.mpr ⟨kw_6, List.forall_mem_cons.mpr ⟨kw_7, List.forall_mem_cons.mpr ⟨kw_8, List.forall_mem_cons.mpr ⟨kw_9, List.forall_mem_cons.mpr ⟨kw_10, List.forall_mem_cons.mpr ⟨kw_11, List.forall_mem_cons.mpr ⟨kw_12, List.forall_mem_cons.mpr ⟨kw_13, List.forall_mem_cons.mpr ⟨kw_14, List.forall_mem_cons.mpr ⟨kw_15, List.forall_mem_cons.mpr ⟨kw_16, List.forall_mem_cons.mpr ⟨kw_17, List.forall_mem_cons.mpr ⟨kw_18, fun _ h => absurd h List.not_mem_nil⟩⟩⟩⟩⟩⟩⟩⟩⟩⟩⟩⟩⟩⟩⟩⟩⟩⟩⟩
theorem kz_0 : x_okc k_P 0 (RX0, TX0, 3) := k_cls_ok (ty := tyX0) (is := [444, 446, 448]) (by decide +kernel) (by decide +kernel) nmX0 tyX0_ok (by decide +kernel)
theorem kz_1 : x_okc k_P 1 (RX1, TX1, 3) := k_cls_ok (ty := tyX1) (is := [272, 274, 276]) (by decide +kernel) (by decide +kernel) nmX1 tyX1_ok (by decide +kernel)
theorem kz_2 : x_okc k_P 2 (RX2, TX2, 3) := k_cls_ok (ty := tyX2) (is := [397, 399, 401]) (by decide +kernel) (by decide +kernel) nmX2 tyX2_ok (by decide +kernel)
theorem kz_3 : x_okc k_P 3 (RX3, TX3, 8) := k_cls_ok (ty := tyX3) (is := [215, 217, 219, 221, 223, 225, 227, 229]) (by decide +kernel) (by decide +kernel) nmX3 tyX3_ok (by decide +kernel)
theorem kz_4 : x_okc k_P 4 (RX4, TX4, 7) := k_cls_ok (ty := tyX4) (is := [418, 420, 422, 424, 426, 428, 430]) (by decide +kernel) (by decide +kernel) nmX4 tyX4_ok (by decide +kernel)
theorem kz_5 : x_okc k_P 5 (RX5, TX5, 4) := k_cls_ok (ty := tyX5) (is := [378, 380, 382, 384]) (by decide +kernel) (by decide +kernel) nmX5 tyX5_ok (by decide +kernel)
theorem kz_6 : x_okc k_P 6 (RX6, TX6, 8) := k_cls_ok (ty := tyX6) (is := [467, 469, 471, 473, 475, 477, 479, 481]) (by decide +kernel) (by decide +kernel) nmX6 tyX6_ok (by decide +kernel)
theorem kz_7 : x_okc k_P 7 (RX7, TX7, 1) := k_cls_ok (ty := tyX7) (is := [234]) (by decide +kernel) (by decide +kernel) nmX7 tyX7_ok (by decide +kernel)
theorem kz_8 : x_okc k_P 8 (RX8, TX8, 2) := k_cls_ok (ty := tyX8) (is := [174, 176]) (by decide +kernel) (by decide +kernel) nmX8 tyX8_ok (by decide +kernel)
theorem kz_9 : x_okc k_P 9 (RX9, TX9, 16) := k_cls_ok (ty := tyX9) (is := [335, 337, 339, 341, 343, 345, 347, 349, 351, 353, 355, 357, 359, 361, 363, 365]) (by decide +kernel) (by decide +kernel) nmX9 tyX9_ok (by decide +kernel)
theorem kz_10 : x_okc k_P 10 (RX10, TX10, 3) := k_cls_ok (ty := tyX10) (is := [241, 243, 245]) (by decide +kernel) (by decide +kernel) nmX10 tyX10_ok (by decide +kernel)
theorem kz_11 : x_okc k_P 11 (RX11, TX11, 13) := k_cls_ok (ty := tyX11) (is := [497, 499, 501, 503, 505, 507, 509, 511, 513, 515, 517, 519, 521]) (by decide +kernel) (by decide +kernel) nmX11 tyX11_ok (by decide +kernel)
theorem kz_12 : x_okc k_P 12 (RX12, TX12, 80) := k_cls_ok (ty := tyX12) (is := [1353, 1355, 1357, 1359, 1361, 1363, 1365, 1367, 1369, 1371, 1373, 1375, 1377, 1379, 1381, 1383, 1385, 1387, 1389, 1391, 1393, 1395, 1397, 1399, 1401, 1403, 1405, 1407, 1409, 1411, 1413, 1415, 1417, 1419, 1421, 1423, 1425, 1427, 1429, 1431, 1433, 1435, 1437, 1439, 1441, 1443, 1445, 1447, 1449, 1451, 1453, 1455, 1457, 1459, 1461, 1463, 1465, 1467, 1469, 1471, 1473, 1475, 1477, 1479, 1481, 1483, 1485, 1487, 1489, 1491, 1493, 1495, 1497, 1499, 1501, 1503, 1505, 1507, 1509, 1511]) (by decide +kernel) (by decide +kernel) nmX12 tyX12_ok (by decide +kernel)
theorem k_classes : ∀ (ci : Nat) (q : vw_C), k_cl[ci]? = some q → x_okc k_P ci q := by
  intro ci q h
  match ci, h with
  | 0, h => cases h; exact kz_0
  | 1, h => cases h; exact kz_1
  | 2, h => cases h; exact kz_2
  | 3, h => cases h; exact kz_3
  | 4, h => cases h; exact kz_4
  | 5, h => cases h; exact kz_5
  | 6, h => cases h; exact kz_6
  | 7, h => cases h; exact kz_7
  | 8, h => cases h; exact kz_8
  | 9, h => cases h; exact kz_9
  | 10, h => cases h; exact kz_10
  | 11, h => cases h; exact kz_11
  | 12, h => cases h; exact kz_12
  | ci + 13, h => simp [k_cl] at h
theorem k_inst : k_chk (k_cl.map (fun C => Cond.instantiable C.1 C.2.2)) [434, 261, 388, 193, 405, 249, 452, 187, 158, 255, 181, 150, 1268] = true := by decide +kernel
theorem k_ok : x_OK k_cl k_P := k_OK k_okm k_recs k_classes (by decide +kernel)
end
section
def x_eqI : Int → Int → Bool
  | .ofNat a, .ofNat b => Nat.beq a b
  | .negSucc a, .negSucc b => Nat.beq a b
  | _, _ => false
def x_eqO : Option Nat → Option Nat → Bool
  | none, none => true
  | some a, some b => Nat.beq a b
  | _, _ => false
def x_eqL {α : Type} (f : α → α → Bool) : List α → List α → Bool
  | [], [] => true
  | a :: l, b :: k => cond (f a b) (x_eqL f l k) false
  | _, _ => false
def x_eqV (a b : xV) : Bool := Nat.beq a.1 b.1 && (x_eqO a.2.1 b.2.1 && x_eqI a.2.2 b.2.2)
def x_eqN (a b : Nat × xV) : Bool := Nat.beq a.1 b.1 && x_eqV a.2 b.2
def x_eqC : xC → xC → Bool
  | .inl a, .inl b => Nat.beq a.1 b.1 && (Nat.beq a.2.1 b.2.1 && (x_eqI a.2.2.1 b.2.2.1 && (x_eqI a.2.2.2.1 b.2.2.2.1 && x_eqL x_eqN a.2.2.2.2 b.2.2.2.2)))
  | .inr a, .inr b => Nat.beq a.1 b.1 && x_eqL x_eqV a.2 b.2
  | _, _ => false
def x_eqE (a b : Int × Int) : Bool := x_eqI a.1 b.1 && x_eqI a.2 b.2
def x_eqF (a b : xF) : Bool := Nat.beq a.1 b.1 && (Nat.beq a.2.1 b.2.1 && (x_eqL x_eqN a.2.2.1 b.2.2.1 && (x_eqL x_eqV a.2.2.2.1 b.2.2.2.1 && (Nat.beq a.2.2.2.2.1 b.2.2.2.2.1 && Nat.beq a.2.2.2.2.2 b.2.2.2.2.2))))
def x_eqS (a b : xS) : Bool := x_eqL x_eqF a.1 b.1 && (x_eqL x_eqC a.2.1 b.2.1 && x_eqL x_eqE a.2.2 b.2.2)
theorem x_eqB {a b : Nat} (h : Nat.beq a b = true) : a = b := Nat.eq_of_beq_eq_true h
theorem x_eqI_ok {a b : Int} (h : x_eqI a b = true) : a = b := by
  cases a <;> cases b <;> simp only [x_eqI, Bool.false_eq_true] at h <;> rw [x_eqB h]
theorem x_eqO_ok {a b : Option Nat} (h : x_eqO a b = true) : a = b := by
  cases a <;> cases b <;> simp only [x_eqO, Bool.false_eq_true] at h
  · rfl
  · rw [x_eqB h]
theorem x_eqL_ok {α : Type} {f : α → α → Bool} (hf : ∀ a b, f a b = true → a = b) : ∀ {l k : List α}, x_eqL f l k = true → l = k
  | [], [], _ => rfl
  | a :: l, b :: k, h => by
    unfold x_eqL at h
    cases hfa : f a b with
    | false => rw [hfa] at h; cases h
    | true => rw [hfa] at h; rw [hf a b hfa, x_eqL_ok hf (show x_eqL f l k = true from h)]
  | [], _ :: _, h => by cases h
  | _ :: _, [], h => by cases h
theorem x_eqV_ok (a b : xV) (h : x_eqV a b = true) : a = b := by
  obtain ⟨a1, a2, a3⟩ := a
  obtain ⟨b1, b2, b3⟩ := b
  simp only [x_eqV, Bool.and_eq_true] at h
  rw [x_eqB h.1, x_eqO_ok h.2.1, x_eqI_ok h.2.2]
theorem x_eqN_ok (a b : Nat × xV) (h : x_eqN a b = true) : a = b := by
  obtain ⟨a1, a2⟩ := a
  obtain ⟨b1, b2⟩ := b
  simp only [x_eqN, Bool.and_eq_true] at h
  rw [x_eqB h.1, x_eqV_ok _ _ h.2]
theorem x_eqC_ok (a b : xC) (h : x_eqC a b = true) : a = b := by
  rcases a with ⟨a1, a2, a3, a4, a5⟩ | ⟨a1, a2⟩ <;> rcases b with ⟨b1, b2, b3, b4, b5⟩ | ⟨b1, b2⟩ <;> simp only [x_eqC, Bool.and_eq_true, Bool.false_eq_true] at h
  · rw [x_eqB h.1, x_eqB h.2.1, x_eqI_ok h.2.2.1, x_eqI_ok h.2.2.2.1, x_eqL_ok x_eqN_ok h.2.2.2.2]
  · rw [x_eqB h.1, x_eqL_ok x_eqV_ok h.2]
theorem x_eqE_ok (a b : Int × Int) (h : x_eqE a b = true) : a = b := by
  obtain ⟨a1, a2⟩ := a
  obtain ⟨b1, b2⟩ := b
  simp only [x_eqE, Bool.and_eq_true] at h
  rw [x_eqI_ok h.1, x_eqI_ok h.2]
theorem x_eqF_ok (a b : xF) (h : x_eqF a b = true) : a = b := by
  obtain ⟨a1, a2, a3, a4, a5, a6⟩ := a
  obtain ⟨b1, b2, b3, b4, b5, b6⟩ := b
  simp only [x_eqF, Bool.and_eq_true] at h
  rw [x_eqB h.1, x_eqB h.2.1, x_eqL_ok x_eqN_ok h.2.2.1, x_eqL_ok x_eqV_ok h.2.2.2.1, x_eqB h.2.2.2.2.1, x_eqB h.2.2.2.2.2]
theorem x_eqS_ok (a b : xS) (h : x_eqS a b = true) : a = b := by
  obtain ⟨a1, a2, a3⟩ := a
  obtain ⟨b1, b2, b3⟩ := b
  simp only [x_eqS, Bool.and_eq_true] at h
  rw [x_eqL_ok x_eqF_ok h.1, x_eqL_ok x_eqC_ok h.2.1, x_eqL_ok x_eqE_ok h.2.2]
def x_adv (P : xP) : Nat → xS → Option xS
  | 0, S => some S
  | n + 1, S => match x_step P S with
    | some [S'] => x_adv P n S'
    | _ => none
def x_advT (P : xP) (n : Nat) (S T : xS) : Bool := match x_adv P n S with
  | some q => x_eqS q T
  | none => false
theorem x_run_mono {P : xP} : ∀ {n k : Nat} {S : xS}, n ≤ k → x_run P n S = true → x_run P k S = true
  | 0, _, _, _, h => by cases h
  | n + 1, 0, _, hk, _ => absurd hk (by omega)
  | n + 1, k + 1, S, hk, h => by
    obtain ⟨l, e, hl⟩ := x_run_ok h
    unfold x_run
    rw [e]
    split
    next S' q => cases q; exact x_run_mono (by omega) (hl _ (List.mem_singleton.mpr rfl))
    next q => cases q; exact List.all_eq_true.mpr (fun q hq => x_run_mono (by omega) (hl q hq))
    next q => cases q
theorem x_run_succ {P : xP} {n : Nat} {S : xS} {l : List xS} (h : x_step P S = some l) (hl : ∀ S' ∈ l, x_run P n S' = true) : x_run P (n + 1) S = true := by
  unfold x_run
  rw [h]
  split
  next S' q => cases q; exact hl _ (List.mem_singleton.mpr rfl)
  next q => cases q; exact List.all_eq_true.mpr hl
  next q => cases q
theorem x_adv_run {P : xP} : ∀ {n k : Nat} {S T : xS}, x_adv P n S = some T → x_run P k T = true → x_run P (n + k) S = true
  | 0, k, S, T, h, hk => by
    cases h
    rw [Nat.zero_add]
    exact hk
  | n + 1, k, S, T, h, hk => by
    unfold x_adv at h
    split at h
    next S' e =>
      rw [show n + 1 + k = (n + k) + 1 by omega]
      exact x_run_succ e (fun q hq => by rw [List.mem_singleton.mp hq]; exact x_adv_run h hk)
    next => cases h
theorem x_adv_ok {P : xP} {n : Nat} {S T : xS} (h : x_advT P n S T = true) (hT : ∃ k, x_run P k T = true) : ∃ k, x_run P k S = true := by
  obtain ⟨k, hk⟩ := hT
  unfold x_advT at h
  split at h
  next q e =>
    have e2 := x_eqS_ok q T h
    subst e2
    exact ⟨n + k, x_adv_run e hk⟩
  next => cases h
def x_fanT (P : xP) (S : xS) (l : List xS) : Bool := match x_step P S with
  | some q => x_eqL x_eqS q l
  | none => false
theorem x_all_run {P : xP} : ∀ {l : List xS}, (∀ S ∈ l, ∃ n, x_run P n S = true) → ∃ n, ∀ S ∈ l, x_run P n S = true
  | [], _ => ⟨0, fun _ h => absurd h List.not_mem_nil⟩
  | a :: l, h => by
    obtain ⟨n, hn⟩ := h a List.mem_cons_self
    obtain ⟨k, hk⟩ := x_all_run (fun S hS => h S (List.mem_cons_of_mem _ hS))
    refine ⟨n + k, fun S hS => ?_⟩
    rcases List.mem_cons.mp hS with rfl | hS
    · exact x_run_mono (by omega) hn
    · exact x_run_mono (by omega) (hk S hS)
theorem x_fan_ok {P : xP} {S : xS} {l : List xS} (h : x_fanT P S l = true) (hl : ∀ T ∈ l, ∃ n, x_run P n T = true) : ∃ n, x_run P n S = true := by
  obtain ⟨n, hn⟩ := x_all_run hl
  unfold x_fanT at h
  split at h
  next q e =>
    have e2 := x_eqL_ok x_eqS_ok h
    subst e2
    exact ⟨n + 1, x_run_succ e hn⟩
  next => cases h
theorem k_S_start : True := trivial
def k_h0 : List xC := [.inr (11, [(3, none, 1), (3, none, 3), (3, none, 7), (3, none, 44), (3, none, 46), (3, none, 51), (3, none, 54), (3, none, 61), (3, none, 62), (0, none, 0), (0, none, 0), (0, none, (-1)), (0, none, 1)]), .inr (8, [(3, none, 2), (0, none, 0)]), .inl (0, 1600, 0, 0, []), .inr (10, [(3, none, 4), (3, none, 5), (0, none, 0)]), .inr (7, [(3, none, 5)]), .inr (3, [(3, none, 6), (0, none, 0), (0, none, 0), (0, none, 0), (0, none, 0), (0, none, 0), (0, none, 0), (0, none, 0)]), .inl (0, 0, 0, 0, []), .inr (5, [(3, none, 8), (3, none, 25), (3, none, 42), (3, none, 43)]), .inr (9, [(0, none, 0), (0, none, 0), (0, none, 0), (0, none, (-1)), (3, none, 9), (3, none, 10), (3, none, 11), (3, none, 12), (3, none, 13), (3, none, 14), (3, none, 15), (3, none, 16), (3, none, 17), (3, none, 18), (3, none, 19), (3, none, 22)]), .inl (0, 8, 0, 0, []), .inl (0, 8, 0, 0, []), .inl (0, 8, 0, 0, []), .inl (0, 64, 0, 0, []), .inl (0, 8, 0, 0, []), .inl (0, 8, 0, 0, []), .inl (0, 8, 0, 0, []), .inl (0, 8, 0, 0, []), .inl (0, 8, 0, 0, []), .inl (0, 8, 0, 0, []), .inr (1, [(3, none, 20), (3, none, 21), (0, none, 0)]), .inl (0, 64, 0, 0, []), .inl (0, 32, 0, 0, []), .inr (1, [(3, none, 23), (3, none, 24), (0, none, 0)]), .inl (0, 64, 0, 0, []), .inl (0, 32, 0, 0, []), .inr (9, [(0, none, 0), (0, none, 0), (0, none, 0), (0, none, (-1)), (3, none, 26), (3, none, 27), (3, none, 28), (3, none, 29), (3, none, 30), (3, none, 31), (3, none, 32), (3, none, 33), (3, none, 34), (3, none, 35), (3, none, 36), (3, none, 39)]), .inl (0, 8, 0, 0, []), .inl (0, 8, 0, 0, []), .inl (0, 8, 0, 0, []), .inl (0, 64, 0, 0, []), .inl (0, 8, 0, 0, []), .inl (0, 8, 0, 0, []), .inl (0, 8, 0, 0, []), .inl (0, 8, 0, 0, []), .inl (0, 8, 0, 0, []), .inl (0, 8, 0, 0, []), .inr (1, [(3, none, 37), (3, none, 38), (0, none, 0)]), .inl (0, 64, 0, 0, []), .inl (0, 32, 0, 0, []), .inr (1, [(3, none, 40), (3, none, 41), (0, none, 0)]), .inl (0, 64, 0, 0, []), .inl (0, 32, 0, 0, []), .inl (0, 81, 0, 0, []), .inl (0, 6, 0, 0, []), .inr (2, [(3, none, 45), (0, none, 0), (0, none, 0)]), .inl (0, 1620, 0, 0, []), .inr (4, [(3, none, 47), (3, none, 48), (3, none, 49), (3, none, 50), (0, none, 0), (0, none, 0), (0, none, (-1))]), .inl (0, 64, 0, 0, []), .inl (0, 64, 0, 0, []), .inl (0, 8, 0, 0, []), .inl (0, 8, 0, 0, []), .inr (0, [(3, none, 52), (3, none, 53), (0, none, 0)]), .inl (0, 104, 0, 0, []), .inl (0, 12, 0, 0, []), .inr (6, [(3, none, 55), (3, none, 56), (3, none, 57), (3, none, 58), (3, none, 59), (3, none, 60), (0, none, 0), (0, none, 1)]), .inl (0, 8, 0, 0, []), .inl (0, 8, 0, 0, []), .inl (0, 2048, 0, 0, []), .inl (0, 256, 0, 0, []), .inl (0, 256, 0, 0, []), .inl (0, 64, 0, 0, []), .inl (0, 6, 0, 0, []), .inl (0, 73, 0, 0, []), .inr (12, [(3, none, 64), (0, none, 0), (0, none, 0), (0, none, 0), (0, none, 0), (0, none, 0), (0, none, 0), (1, none, 0), (0, none, 0), (0, none, 0), (0, none, (-1)), (0, none, 0), (0, none, (-1)), (0, none, (-1)), (0, none, 0), (3, none, 65), (3, none, 66), (3, none, 67), (3, none, 68), (3, none, 69), (3, none, 70), (3, none, 71), (2, none, 0), (2, none, 0), (2, none, 0), (2, none, 0), (2, none, 0), (2, none, 0), (2, none, 0), (2, none, 0), (2, none, 0), (2, none, 0), (2, none, 0), (2, none, 0), (2, none, 0), (0, none, 0), (0, none, 0), (2, none, 0), (2, none, 0), (2, none, 0), (2, none, 0), (2, none, 0), (0, none, 0), (0, none, 0), (2, none, 0), (0, none, 0), (0, none, 0), (2, none, 0), (2, none, 0), (2, none, 0), (2, none, 0), (2, none, 0), (2, none, 0), (2, none, 0), (2, none, 0), (2, none, 0), (2, none, 0), (2, none, 0), (0, none, 0), (0, none, 0), (1, none, 0), (2, none, 0), (0, none, 0), (0, none, 0), (0, none, 0), (2, none, 0), (2, none, 0), (2, none, 0), (0, none, 0), (2, none, 0), (0, none, 0), (2, none, 0), (0, none, 0), (2, none, 0), (2, none, 0), (2, none, 0), (2, none, 0), (2, none, 0), (2, none, 0), (0, none, 0)]), .inl (0, 1800, 0, 0, []), .inl (0, 2, 0, 0, []), .inl (0, 16, 0, 0, []), .inl (0, 16, 0, 0, []), .inl (0, 128, 0, 0, []), .inl (0, 2, 0, 0, []), .inl (0, 16, 0, 0, []), .inl (0, 16, 0, 0, [])]
def k_T0 : xS := ([(171, 141, [(0, (3, none, 63))], [(0, none, 16), (3, none, 63)], 8, 1996), (0, 15, [(1, (3, none, 0)), (0, (4, none, 0))], [(3, none, 63)], 114, 22650)], k_h0, [((-2147483648), 2147483647), ((-2147483648), 2147483647), ((-2147483648), 2147483647), ((-2147483648), 2147483647), ((-2147483648), 2147483647), ((-2147483648), 2147483647), (0, 6)])
def k_h1 : List xC := [.inr (11, [(3, none, 1), (3, none, 3), (3, none, 7), (3, none, 44), (3, none, 46), (3, none, 51), (3, none, 54), (3, none, 61), (3, none, 62), (0, none, 0), (0, none, 0), (0, none, (-1)), (0, none, 1)]), .inr (8, [(3, none, 2), (0, none, 0)]), .inl (0, 1600, 0, 0, []), .inr (10, [(3, none, 4), (3, none, 5), (0, none, 0)]), .inr (7, [(3, none, 5)]), .inr (3, [(3, none, 6), (0, none, 0), (0, none, 0), (0, none, 0), (0, none, 0), (0, none, 0), (0, none, 0), (0, none, 0)]), .inl (0, 0, 0, 0, []), .inr (5, [(3, none, 8), (3, none, 25), (3, none, 42), (3, none, 43)]), .inr (9, [(0, none, 0), (0, none, 0), (0, none, 0), (0, none, (-1)), (3, none, 9), (3, none, 10), (3, none, 11), (3, none, 12), (3, none, 13), (3, none, 14), (3, none, 15), (3, none, 16), (3, none, 17), (3, none, 18), (3, none, 19), (3, none, 22)]), .inl (0, 8, 0, 0, []), .inl (0, 8, 0, 0, []), .inl (0, 8, 0, 0, []), .inl (0, 64, 0, 0, []), .inl (0, 8, 0, 0, []), .inl (0, 8, 0, 0, []), .inl (0, 8, 0, 0, []), .inl (0, 8, 0, 0, []), .inl (0, 8, 0, 0, []), .inl (0, 8, 0, 0, []), .inr (1, [(3, none, 20), (3, none, 21), (0, none, 0)]), .inl (0, 64, 0, 0, []), .inl (0, 32, 0, 0, []), .inr (1, [(3, none, 23), (3, none, 24), (0, none, 0)]), .inl (0, 64, 0, 0, []), .inl (0, 32, 0, 0, []), .inr (9, [(0, none, 0), (0, none, 0), (0, none, 0), (0, none, (-1)), (3, none, 26), (3, none, 27), (3, none, 28), (3, none, 29), (3, none, 30), (3, none, 31), (3, none, 32), (3, none, 33), (3, none, 34), (3, none, 35), (3, none, 36), (3, none, 39)]), .inl (0, 8, 0, 0, []), .inl (0, 8, 0, 0, []), .inl (0, 8, 0, 0, []), .inl (0, 64, 0, 0, []), .inl (0, 8, 0, 0, []), .inl (0, 8, 0, 0, []), .inl (0, 8, 0, 0, []), .inl (0, 8, 0, 0, []), .inl (0, 8, 0, 0, []), .inl (0, 8, 0, 0, []), .inr (1, [(3, none, 37), (3, none, 38), (0, none, 0)]), .inl (0, 64, 0, 0, []), .inl (0, 32, 0, 0, []), .inr (1, [(3, none, 40), (3, none, 41), (0, none, 0)]), .inl (0, 64, 0, 0, []), .inl (0, 32, 0, 0, []), .inl (0, 81, 0, 0, []), .inl (0, 6, 0, 0, []), .inr (2, [(3, none, 45), (0, none, 0), (0, none, 0)]), .inl (0, 1620, 0, 0, []), .inr (4, [(3, none, 47), (3, none, 48), (3, none, 49), (3, none, 50), (0, none, 0), (0, none, 0), (0, none, (-1))]), .inl (0, 64, 0, 0, []), .inl (0, 64, 0, 0, []), .inl (0, 8, 0, 0, []), .inl (0, 8, 0, 0, []), .inr (0, [(3, none, 52), (3, none, 53), (0, none, 0)]), .inl (0, 104, 0, 0, []), .inl (0, 12, 0, 0, []), .inr (6, [(3, none, 55), (3, none, 56), (3, none, 57), (3, none, 58), (3, none, 59), (3, none, 60), (0, none, 0), (0, none, 1)]), .inl (0, 8, 0, 0, []), .inl (0, 8, 0, 0, []), .inl (0, 2048, 0, 0, []), .inl (0, 256, 0, 0, []), .inl (0, 256, 0, 0, []), .inl (0, 64, 0, 0, []), .inl (0, 6, 0, 0, []), .inl (0, 73, 0, 0, []), .inr (12, [(3, none, 64), (0, none, 0), (0, none, 0), (0, none, 0), (0, none, 0), (0, none, 0), (0, none, 0), (1, none, 0), (0, none, 0), (0, none, 0), (0, none, (-1)), (0, none, 0), (0, none, (-1)), (0, none, (-1)), (0, none, 0), (3, none, 65), (3, none, 66), (3, none, 67), (3, none, 68), (3, none, 69), (3, none, 70), (3, none, 71), (3, none, 72), (3, none, 73), (3, none, 74), (3, none, 75), (3, none, 76), (3, none, 77), (3, none, 78), (3, none, 79), (3, none, 80), (3, none, 81), (3, none, 82), (3, none, 83), (3, none, 84), (0, none, 0), (0, none, 1), (3, none, 85), (3, none, 86), (3, none, 87), (3, none, 88), (3, none, 89), (0, none, 0), (0, none, 0), (3, none, 90), (0, none, 0), (0, none, 0), (3, none, 91), (3, none, 92), (3, none, 93), (3, none, 94), (3, none, 95), (3, none, 96), (3, none, 97), (3, none, 98), (3, none, 99), (3, none, 100), (3, none, 101), (0, none, 0), (0, none, 0), (1, none, 1), (3, none, 102), (0, none, 0), (0, none, 0), (0, none, 0), (3, none, 103), (3, none, 104), (3, none, 105), (0, none, 0), (3, none, 106), (0, none, 0), (3, none, 107), (0, none, 0), (3, none, 108), (3, none, 109), (3, none, 110), (3, none, 111), (3, none, 112), (3, none, 113), (0, none, 0)]), .inl (0, 1800, 0, 0, []), .inl (0, 2, 0, 0, []), .inl (0, 16, 0, 0, []), .inl (0, 16, 0, 0, []), .inl (0, 128, 0, 0, []), .inl (0, 2, 0, 0, []), .inl (0, 16, 0, 0, []), .inl (0, 16, 0, 0, []), .inl (0, 16, 0, 0, []), .inl (0, 16, 0, 0, []), .inl (0, 16, 0, 0, [(15, (0, none, (-1))), (14, (0, none, (-1))), (13, (0, none, (-1))), (12, (0, none, (-1))), (11, (0, none, (-1))), (10, (0, none, (-1))), (9, (0, none, (-1))), (8, (0, none, (-1))), (7, (0, none, (-1))), (6, (0, none, (-1))), (5, (0, none, (-1))), (4, (0, none, (-1))), (3, (0, none, (-1))), (2, (0, none, (-1))), (1, (0, none, (-1))), (0, (0, none, (-1)))]), .inl (0, 2, 0, 0, [(0, (0, none, (-1)))]), .inl (0, 2, 0, 0, []), .inl (0, 2, 0, 0, [(0, (0, none, (-1)))]), .inl (0, 2, 0, 0, []), .inl (0, 2, 0, 0, []), .inl (0, 2, 0, 0, [(0, (0, none, (-1)))]), .inl (0, 3200, 0, 0, []), .inl (0, 3200, 0, 0, []), .inl (1, 16, 0, 0, []), .inl (1, 16, 0, 0, []), .inl (0, 20, 0, 0, []), .inl (0, 20, 0, 0, []), .inl (2, 20, 0, 0, []), .inl (0, 20, 0, 0, []), .inl (0, 20, 0, 0, []), .inl (0, 500, 0, 0, []), .inl (0, 6, 0, 0, []), .inl (0, 176, 0, 0, []), .inl (0, 176, 0, 0, []), .inl (0, 176, 0, 0, []), .inl (0, 176, 0, 0, []), .inl (0, 176, 0, 0, []), .inl (0, 22, 0, 0, []), .inl (0, 880, 0, 0, []), .inl (0, 880, 0, 0, []), .inl (0, 880, 0, 0, []), .inl (0, 880, 0, 0, []), .inl (1, 500, 0, 0, []), .inl (0, 64, 0, 0, []), .inl (0, 64, 0, 0, []), .inl (0, 8, 0, 0, []), .inl (0, 12, 0, 0, []), .inl (0, 64, 0, 0, []), .inl (0, 8, 0, 0, []), .inl (0, 8, 0, 0, []), .inl (0, 600, 0, 0, []), .inl (0, 600, 0, 0, []), .inl (0, 8, 0, 0, []), .inl (0, 80, 0, 0, [])]
def k_T1 : xS := ([(0, 24, [(3, (0, none, 0)), (2, (3, none, 63)), (1, (3, none, 0)), (0, (4, none, 0))], [(0, some 6, (-6)), (0, none, 0)], 114, 22650)], k_h1, [((-2147483648), 2147483647), ((-2147483648), 2147483647), ((-2147483648), 2147483647), ((-2147483648), 2147483647), ((-2147483648), 2147483647), ((-2147483648), 2147483647), (0, 6)])
def k_T2 : xS := ([(0, 1027, [(3, (0, none, 0)), (2, (3, none, 63)), (1, (3, none, 0)), (0, (4, none, 0))], [], 114, 22650)], k_h1, [((-2147483648), 2147483647), ((-2147483648), 2147483647), ((-2147483648), 2147483647), ((-2147483648), 2147483647), ((-2147483648), 2147483647), ((-2147483648), 2147483647), (0, 5)])
theorem k_T2_ok : ∃ n, x_run k_P n k_T2 = true := ⟨7, by decide +kernel⟩
def k_T3 : xS := ([(0, 27, [(3, (0, none, 0)), (2, (3, none, 63)), (1, (3, none, 0)), (0, (4, none, 0))], [], 114, 22650)], k_h1, [((-2147483648), 2147483647), ((-2147483648), 2147483647), ((-2147483648), 2147483647), ((-2147483648), 2147483647), ((-2147483648), 2147483647), ((-2147483648), 2147483647), (6, 6)])
def k_T4 : xS := ([(0, 33, [(3, (0, none, 0)), (2, (3, none, 63)), (1, (3, none, 0)), (0, (4, none, 0))], [(0, some 7, 0)], 114, 22650)], k_h1, [((-2147483648), 2147483647), ((-2147483648), 2147483647), ((-2147483648), 2147483647), ((-2147483648), 2147483647), ((-2147483648), 2147483647), ((-2147483648), 2147483647), (6, 6), ((-2147483648), 2147483647)])
def k_T5 : xS := ([(0, 1021, [(3, (0, none, 0)), (2, (3, none, 63)), (1, (3, none, 0)), (0, (4, none, 0))], [], 114, 22650)], k_h1, [((-2147483648), 2147483647), ((-2147483648), 2147483647), ((-2147483648), 2147483647), ((-2147483648), 2147483647), ((-2147483648), 2147483647), ((-2147483648), 2147483647), (6, 6), ((-2147483648), (-1))])
theorem k_T5_ok : ∃ n, x_run k_P n k_T5 = true := ⟨15, by decide +kernel⟩
def k_T6 : xS := ([(0, 1021, [(3, (0, none, 0)), (2, (3, none, 63)), (1, (3, none, 0)), (0, (4, none, 0))], [], 114, 22650)], k_h1, [((-2147483648), 2147483647), ((-2147483648), 2147483647), ((-2147483648), 2147483647), ((-2147483648), 2147483647), ((-2147483648), 2147483647), ((-2147483648), 2147483647), (6, 6), (29, 2147483647)])
theorem k_T6_ok : ∃ n, x_run k_P n k_T6 = true := ⟨15, by decide +kernel⟩
def k_T7 : xS := ([(0, 164, [(3, (0, none, 0)), (2, (3, none, 63)), (1, (3, none, 0)), (0, (4, none, 0))], [], 114, 22650)], k_h1, [((-2147483648), 2147483647), ((-2147483648), 2147483647), ((-2147483648), 2147483647), ((-2147483648), 2147483647), ((-2147483648), 2147483647), ((-2147483648), 2147483647), (6, 6), (0, 0)])
def k_h2 : List xC := [.inr (11, [(3, none, 1), (3, none, 3), (3, none, 7), (3, none, 44), (3, none, 46), (3, none, 51), (3, none, 54), (3, none, 61), (3, none, 62), (0, none, 0), (0, none, 0), (0, none, (-1)), (0, none, 1)]), .inr (8, [(3, none, 2), (0, none, 16)]), .inl (0, 1600, 0, 0, [(15, (0, some 39, 0)), (14, (0, some 37, 0)), (13, (0, some 35, 0)), (12, (0, some 33, 0)), (11, (0, some 31, 0)), (10, (0, some 29, 0)), (9, (0, some 27, 0)), (8, (0, some 25, 0)), (7, (0, some 23, 0)), (6, (0, some 21, 0)), (5, (0, some 19, 0)), (4, (0, some 17, 0)), (3, (0, some 15, 0)), (2, (0, some 13, 0)), (1, (0, some 11, 0)), (0, (0, some 9, 0))]), .inr (10, [(3, none, 4), (3, none, 5), (0, none, 0)]), .inr (7, [(3, none, 5)]), .inr (3, [(3, none, 6), (0, none, 0), (0, none, 0), (0, none, 0), (0, none, 0), (0, none, 0), (0, none, 0), (0, none, 0)]), .inl (0, 0, 0, 0, []), .inr (5, [(3, none, 8), (3, none, 25), (3, none, 42), (3, none, 43)]), .inr (9, [(0, none, 0), (0, none, 0), (0, none, 0), (0, none, (-1)), (3, none, 9), (3, none, 10), (3, none, 11), (3, none, 12), (3, none, 13), (3, none, 14), (3, none, 15), (3, none, 16), (3, none, 17), (3, none, 18), (3, none, 19), (3, none, 22)]), .inl (0, 8, 0, 0, []), .inl (0, 8, 0, 0, []), .inl (0, 8, 0, 0, []), .inl (0, 64, 0, 0, []), .inl (0, 8, 0, 0, []), .inl (0, 8, 0, 0, []), .inl (0, 8, 0, 0, []), .inl (0, 8, 0, 0, []), .inl (0, 8, 0, 0, []), .inl (0, 8, 0, 0, []), .inr (1, [(3, none, 20), (3, none, 21), (0, none, 0)]), .inl (0, 64, 0, 0, []), .inl (0, 32, 0, 0, []), .inr (1, [(3, none, 23), (3, none, 24), (0, none, 0)]), .inl (0, 64, 0, 0, []), .inl (0, 32, 0, 0, []), .inr (9, [(0, none, 0), (0, none, 0), (0, none, 0), (0, none, (-1)), (3, none, 26), (3, none, 27), (3, none, 28), (3, none, 29), (3, none, 30), (3, none, 31), (3, none, 32), (3, none, 33), (3, none, 34), (3, none, 35), (3, none, 36), (3, none, 39)]), .inl (0, 8, 0, 0, []), .inl (0, 8, 0, 0, []), .inl (0, 8, 0, 0, []), .inl (0, 64, 0, 0, []), .inl (0, 8, 0, 0, []), .inl (0, 8, 0, 0, []), .inl (0, 8, 0, 0, []), .inl (0, 8, 0, 0, []), .inl (0, 8, 0, 0, []), .inl (0, 8, 0, 0, []), .inr (1, [(3, none, 37), (3, none, 38), (0, none, 0)]), .inl (0, 64, 0, 0, []), .inl (0, 32, 0, 0, []), .inr (1, [(3, none, 40), (3, none, 41), (0, none, 0)]), .inl (0, 64, 0, 0, []), .inl (0, 32, 0, 0, []), .inl (0, 81, 0, 0, []), .inl (0, 6, 0, 0, []), .inr (2, [(3, none, 45), (0, none, 0), (0, none, 0)]), .inl (0, 1620, 0, 0, []), .inr (4, [(3, none, 47), (3, none, 48), (3, none, 49), (3, none, 50), (0, none, 0), (0, none, 0), (0, none, (-1))]), .inl (0, 64, 0, 0, []), .inl (0, 64, 0, 0, []), .inl (0, 8, 0, 0, []), .inl (0, 8, 0, 0, []), .inr (0, [(3, none, 52), (3, none, 53), (0, none, 0)]), .inl (0, 104, 0, 0, []), .inl (0, 12, 0, 0, []), .inr (6, [(3, none, 55), (3, none, 56), (3, none, 57), (3, none, 58), (3, none, 59), (3, none, 60), (0, none, 0), (0, none, 1)]), .inl (0, 8, 0, 0, []), .inl (0, 8, 0, 0, []), .inl (0, 2048, 0, 0, []), .inl (0, 256, 0, 0, []), .inl (0, 256, 0, 0, []), .inl (0, 64, 0, 0, []), .inl (0, 6, 0, 0, []), .inl (0, 73, 0, 0, []), .inr (12, [(3, none, 64), (0, none, 0), (0, none, 0), (0, none, 0), (0, none, 0), (0, none, 0), (0, none, 0), (1, none, 0), (0, none, 0), (0, none, 0), (0, none, (-1)), (0, none, 0), (0, none, (-1)), (0, none, (-1)), (0, none, 0), (3, none, 65), (3, none, 66), (3, none, 67), (3, none, 68), (3, none, 69), (3, none, 70), (3, none, 71), (3, none, 72), (3, none, 73), (3, none, 74), (3, none, 75), (3, none, 76), (3, none, 77), (3, none, 78), (3, none, 79), (3, none, 80), (3, none, 81), (3, none, 82), (3, none, 83), (3, none, 84), (0, none, 0), (0, none, 1), (3, none, 85), (3, none, 86), (3, none, 87), (3, none, 88), (3, none, 89), (0, none, 0), (0, none, 0), (3, none, 90), (0, none, 0), (0, none, 0), (3, none, 91), (3, none, 92), (3, none, 93), (3, none, 94), (3, none, 95), (3, none, 96), (3, none, 97), (3, none, 98), (3, none, 99), (3, none, 100), (3, none, 101), (0, none, 0), (0, none, 0), (1, none, 1), (3, none, 102), (0, none, 0), (0, none, 0), (0, none, 0), (3, none, 103), (3, none, 104), (3, none, 105), (0, none, 0), (3, none, 106), (0, none, 0), (3, none, 107), (0, none, 0), (3, none, 108), (3, none, 109), (3, none, 110), (3, none, 111), (3, none, 112), (3, none, 113), (0, none, 0)]), .inl (0, 1800, 0, 0, []), .inl (0, 2, 0, 0, []), .inl (0, 16, 0, 0, []), .inl (0, 16, 0, 0, []), .inl (0, 128, 0, 0, []), .inl (0, 2, 0, 0, []), .inl (0, 16, 0, 0, []), .inl (0, 16, 0, 0, []), .inl (0, 16, 0, 0, []), .inl (0, 16, 0, 0, []), .inl (0, 16, 0, 0, [(15, (0, none, (-1))), (14, (0, none, (-1))), (13, (0, none, (-1))), (12, (0, none, (-1))), (11, (0, none, (-1))), (10, (0, none, (-1))), (9, (0, none, (-1))), (8, (0, none, (-1))), (7, (0, none, (-1))), (6, (0, none, (-1))), (5, (0, none, (-1))), (4, (0, none, (-1))), (3, (0, none, (-1))), (2, (0, none, (-1))), (1, (0, none, (-1))), (0, (0, none, (-1)))]), .inl (0, 2, 0, 0, [(0, (0, none, (-1)))]), .inl (0, 2, 0, 0, []), .inl (0, 2, 0, 0, [(0, (0, none, (-1)))]), .inl (0, 2, 0, 0, []), .inl (0, 2, 0, 0, []), .inl (0, 2, 0, 0, [(0, (0, none, (-1)))]), .inl (0, 3200, 0, 0, []), .inl (0, 3200, 0, 0, []), .inl (1, 16, 0, 0, []), .inl (1, 16, 0, 0, []), .inl (0, 20, 0, 0, []), .inl (0, 20, 0, 0, []), .inl (2, 20, 0, 0, []), .inl (0, 20, 0, 0, []), .inl (0, 20, 0, 0, []), .inl (0, 500, 0, 0, []), .inl (0, 6, 0, 0, []), .inl (0, 176, 0, 0, []), .inl (0, 176, 0, 0, []), .inl (0, 176, 0, 0, []), .inl (0, 176, 0, 0, []), .inl (0, 176, 0, 0, []), .inl (0, 22, 0, 0, []), .inl (0, 880, 0, 0, []), .inl (0, 880, 0, 0, []), .inl (0, 880, 0, 0, []), .inl (0, 880, 0, 0, []), .inl (1, 500, 0, 0, []), .inl (0, 64, 0, 0, []), .inl (0, 64, 0, 0, []), .inl (0, 8, 0, 0, []), .inl (0, 12, 0, 0, []), .inl (0, 64, 0, 0, []), .inl (0, 8, 0, 0, []), .inl (0, 8, 0, 0, []), .inl (0, 600, 0, 0, []), .inl (0, 600, 0, 0, []), .inl (0, 8, 0, 0, []), .inl (0, 80, 0, 0, [])]
def k_T8 : xS := ([(103, 19, [(2, (0, none, 24)), (0, (3, none, 1)), (1, (0, some 5, 0))], [], 0, 0), (136, 64, [(0, (3, none, 0)), (1, (0, some 1, 0)), (2, (0, some 2, 0)), (3, (0, some 3, 0)), (4, (0, some 4, 0)), (5, (0, some 5, 0))], [], 0, 0), (0, 193, [(3, (0, none, 0)), (2, (3, none, 63)), (1, (3, none, 0)), (0, (4, none, 0))], [], 114, 22650)], k_h2, [((-2147483648), 2147483647), ((-2147483648), 2147483647), ((-2147483648), 2147483647), ((-2147483648), 2147483647), ((-2147483648), 2147483647), ((-2147483648), 2147483647), (6, 6), (0, 0), ((-2147483648), 2147483647), ((-2147483648), 2147483647), ((-2147483648), 2147483647), ((-2147483648), 2147483647), ((-2147483648), 2147483647), ((-2147483648), 2147483647), ((-2147483648), 2147483647), ((-2147483648), 2147483647), ((-2147483648), 2147483647), ((-2147483648), 2147483647), ((-2147483648), 2147483647), ((-2147483648), 2147483647), ((-2147483648), 2147483647), ((-2147483648), 2147483647), ((-2147483648), 2147483647), ((-2147483648), 2147483647), ((-2147483648), 2147483647), ((-2147483648), 2147483647), ((-2147483648), 2147483647), ((-2147483648), 2147483647), ((-2147483648), 2147483647), ((-2147483648), 2147483647), ((-2147483648), 2147483647), ((-2147483648), 2147483647), ((-2147483648), 2147483647), ((-2147483648), 2147483647), ((-2147483648), 2147483647), ((-2147483648), 2147483647), ((-2147483648), 2147483647), ((-2147483648), 2147483647), ((-2147483648), 2147483647), ((-2147483648), 2147483647)])
theorem k_T8_ok : ∃ n, x_run k_P n k_T8 = true := ⟨595, by decide +kernel⟩
theorem k_T7_ok : ∃ n, x_run k_P n k_T7 = true := x_adv_ok (n := 500) (T := k_T8) (by decide +kernel) k_T8_ok
def k_T9 : xS := ([(0, 227, [(3, (0, none, 0)), (2, (3, none, 63)), (1, (3, none, 0)), (0, (4, none, 0))], [], 114, 22650)], k_h1, [((-2147483648), 2147483647), ((-2147483648), 2147483647), ((-2147483648), 2147483647), ((-2147483648), 2147483647), ((-2147483648), 2147483647), ((-2147483648), 2147483647), (6, 6), (1, 1)])
theorem k_T9_ok : ∃ n, x_run k_P n k_T9 = true := ⟨176, by decide +kernel⟩
def k_T10 : xS := ([(0, 250, [(3, (0, none, 0)), (2, (3, none, 63)), (1, (3, none, 0)), (0, (4, none, 0))], [], 114, 22650)], k_h1, [((-2147483648), 2147483647), ((-2147483648), 2147483647), ((-2147483648), 2147483647), ((-2147483648), 2147483647), ((-2147483648), 2147483647), ((-2147483648), 2147483647), (6, 6), (2, 2)])
def k_T11 : xS := ([(301, 17, [(2, (0, none, 52)), (3, (0, none, 64)), (0, (3, none, 29)), (1, (0, none, 0))], [], 0, 0), (105, 28, [(0, (3, none, 25))], [], 0, 0), (121, 4, [(0, (3, none, 3)), (1, (3, none, 1)), (2, (3, none, 25))], [], 0, 0), (138, 18, [(0, (3, none, 0))], [], 0, 0), (0, 254, [(3, (0, none, 0)), (2, (3, none, 63)), (1, (3, none, 0)), (0, (4, none, 0))], [], 114, 22650)], k_h1, [((-2147483648), 2147483647), ((-2147483648), 2147483647), ((-2147483648), 2147483647), ((-2147483648), 2147483647), ((-2147483648), 2147483647), ((-2147483648), 2147483647), (6, 6), (2, 2)])
def k_h3 : List xC := [.inr (11, [(3, none, 1), (3, none, 3), (3, none, 7), (3, none, 44), (3, none, 46), (3, none, 51), (3, none, 54), (3, none, 61), (3, none, 62), (0, none, 0), (0, none, 0), (0, none, (-1)), (0, none, 1)]), .inr (8, [(3, none, 2), (0, none, 0)]), .inl (0, 1600, 0, 0, []), .inr (10, [(3, none, 4), (3, none, 5), (0, none, 0)]), .inr (7, [(3, none, 5)]), .inr (3, [(3, none, 2), (0, none, 0), (0, none, 0), (0, none, 0), (0, none, 0), (0, none, 0), (0, none, 0), (0, none, 0)]), .inl (0, 0, 0, 0, []), .inr (5, [(3, none, 25), (3, none, 8), (3, none, 42), (3, none, 43)]), .inr (9, [(0, none, 0), (0, none, 0), (0, none, 0), (0, none, (-1)), (3, none, 9), (3, none, 10), (3, none, 11), (3, none, 12), (3, none, 13), (3, none, 14), (3, none, 15), (3, none, 16), (3, none, 17), (3, none, 18), (3, none, 19), (3, none, 22)]), .inl (0, 8, 0, 0, []), .inl (0, 8, 0, 0, []), .inl (0, 8, 0, 0, []), .inl (0, 64, 0, 0, []), .inl (0, 8, 0, 0, []), .inl (0, 8, 0, 0, []), .inl (0, 8, 0, 0, []), .inl (0, 8, 0, 0, []), .inl (0, 8, 0, 0, []), .inl (0, 8, 0, 0, []), .inr (1, [(3, none, 20), (3, none, 21), (0, none, 0)]), .inl (0, 64, 0, 0, []), .inl (0, 32, 0, 0, []), .inr (1, [(3, none, 23), (3, none, 24), (0, none, 0)]), .inl (0, 64, 0, 0, []), .inl (0, 32, 0, 0, []), .inr (9, [(0, none, 0), (0, none, 0), (0, none, 0), (0, none, (-1)), (3, none, 26), (3, none, 27), (3, none, 28), (3, none, 29), (3, none, 30), (3, none, 31), (3, none, 32), (3, none, 33), (3, none, 34), (3, none, 35), (3, none, 36), (3, none, 39)]), .inl (0, 8, 0, 0, []), .inl (0, 8, 0, 0, []), .inl (0, 8, 0, 0, []), .inl (0, 64, 0, 0, []), .inl (0, 8, 0, 0, []), .inl (0, 8, 0, 0, []), .inl (0, 8, 0, 0, []), .inl (0, 8, 0, 0, []), .inl (0, 8, 0, 0, []), .inl (0, 8, 0, 0, []), .inr (1, [(3, none, 37), (3, none, 38), (0, none, 0)]), .inl (0, 64, 0, 0, []), .inl (0, 32, 0, 0, []), .inr (1, [(3, none, 40), (3, none, 41), (0, none, 0)]), .inl (0, 64, 0, 0, []), .inl (0, 32, 0, 0, []), .inl (0, 81, 0, 0, []), .inl (0, 6, 0, 0, []), .inr (2, [(3, none, 45), (0, none, 0), (0, none, 0)]), .inl (0, 1620, 0, 0, []), .inr (4, [(3, none, 47), (3, none, 48), (3, none, 49), (3, none, 50), (0, none, 0), (0, none, 0), (0, none, (-1))]), .inl (0, 64, 0, 0, []), .inl (0, 64, 0, 0, []), .inl (0, 8, 0, 0, []), .inl (0, 8, 0, 0, []), .inr (0, [(3, none, 52), (3, none, 53), (0, none, 0)]), .inl (0, 104, 0, 0, []), .inl (0, 12, 0, 0, []), .inr (6, [(3, none, 55), (3, none, 56), (3, none, 57), (3, none, 58), (3, none, 59), (3, none, 60), (0, none, 0), (0, none, 1)]), .inl (0, 8, 0, 0, []), .inl (0, 8, 0, 0, []), .inl (0, 2048, 0, 0, []), .inl (0, 256, 0, 0, []), .inl (0, 256, 0, 0, []), .inl (0, 64, 0, 0, []), .inl (0, 6, 0, 0, []), .inl (0, 73, 0, 0, []), .inr (12, [(3, none, 64), (0, none, 0), (0, none, 0), (0, none, 0), (0, none, 0), (0, none, 0), (0, none, 0), (1, none, 0), (0, none, 0), (0, none, 0), (0, none, (-1)), (0, none, 0), (0, none, (-1)), (0, none, (-1)), (0, none, 0), (3, none, 65), (3, none, 66), (3, none, 67), (3, none, 68), (3, none, 69), (3, none, 70), (3, none, 71), (3, none, 72), (3, none, 73), (3, none, 74), (3, none, 75), (3, none, 76), (3, none, 77), (3, none, 78), (3, none, 79), (3, none, 80), (3, none, 81), (3, none, 82), (3, none, 83), (3, none, 84), (0, none, 0), (0, none, 1), (3, none, 85), (3, none, 86), (3, none, 87), (3, none, 88), (3, none, 89), (0, none, 0), (0, none, 0), (3, none, 90), (0, none, 0), (0, none, 0), (3, none, 91), (3, none, 92), (3, none, 93), (3, none, 94), (3, none, 95), (3, none, 96), (3, none, 97), (3, none, 98), (3, none, 99), (3, none, 100), (3, none, 101), (0, none, 0), (0, none, 0), (1, none, 1), (3, none, 102), (0, none, 0), (0, none, 0), (0, none, 0), (3, none, 103), (3, none, 104), (3, none, 105), (0, none, 0), (3, none, 106), (0, none, 0), (3, none, 107), (0, none, 0), (3, none, 108), (3, none, 109), (3, none, 110), (3, none, 111), (3, none, 112), (3, none, 113), (0, none, 0)]), .inl (0, 1800, 0, 0, []), .inl (0, 2, 0, 0, []), .inl (0, 16, 0, 0, []), .inl (0, 16, 0, 0, []), .inl (0, 128, 0, 0, []), .inl (0, 2, 0, 0, []), .inl (0, 16, 0, 0, []), .inl (0, 16, 0, 0, []), .inl (0, 16, 0, 0, []), .inl (0, 16, 0, 0, []), .inl (0, 16, 0, 0, [(15, (0, none, (-1))), (14, (0, none, (-1))), (13, (0, none, (-1))), (12, (0, none, (-1))), (11, (0, none, (-1))), (10, (0, none, (-1))), (9, (0, none, (-1))), (8, (0, none, (-1))), (7, (0, none, (-1))), (6, (0, none, (-1))), (5, (0, none, (-1))), (4, (0, none, (-1))), (3, (0, none, (-1))), (2, (0, none, (-1))), (1, (0, none, (-1))), (0, (0, none, (-1)))]), .inl (0, 2, 0, 0, [(0, (0, none, (-1)))]), .inl (0, 2, 0, 0, []), .inl (0, 2, 0, 0, [(0, (0, none, (-1)))]), .inl (0, 2, 0, 0, []), .inl (0, 2, 0, 0, []), .inl (0, 2, 0, 0, [(0, (0, none, (-1)))]), .inl (0, 3200, 0, 0, []), .inl (0, 3200, 0, 0, []), .inl (1, 16, 0, 0, []), .inl (1, 16, 0, 0, []), .inl (0, 20, 0, 0, []), .inl (0, 20, 0, 0, []), .inl (2, 20, 0, 0, []), .inl (0, 20, 0, 0, []), .inl (0, 20, 0, 0, []), .inl (0, 500, 0, 0, []), .inl (0, 6, 0, 0, []), .inl (0, 176, 0, 0, []), .inl (0, 176, 0, 0, []), .inl (0, 176, 0, 0, []), .inl (0, 176, 0, 0, []), .inl (0, 176, 0, 0, []), .inl (0, 22, 0, 0, []), .inl (0, 880, 0, 0, []), .inl (0, 880, 0, 0, []), .inl (0, 880, 0, 0, []), .inl (0, 880, 0, 0, []), .inl (1, 500, 0, 0, []), .inl (0, 64, 0, 0, []), .inl (0, 64, 0, 0, []), .inl (0, 8, 0, 0, []), .inl (0, 12, 0, 0, []), .inl (0, 64, 0, 0, []), .inl (0, 8, 0, 0, []), .inl (0, 8, 0, 0, []), .inl (0, 600, 0, 0, []), .inl (0, 600, 0, 0, []), .inl (0, 8, 0, 0, []), .inl (0, 80, 0, 0, [])]
def k_T12 : xS := ([(301, 13, [(2, (0, none, 31)), (3, (0, none, 81)), (0, (3, none, 42)), (1, (0, none, 0))], [(0, none, 0), (0, none, 31), (3, none, 42)], 0, 0), (42, 26, [(1, (3, none, 8)), (0, (3, none, 7))], [], 0, 0), (138, 84, [(1, (0, none, 0)), (0, (3, none, 0))], [], 0, 0), (0, 254, [(3, (0, none, 0)), (2, (3, none, 63)), (1, (3, none, 0)), (0, (4, none, 0))], [], 114, 22650)], k_h3, [((-2147483648), 2147483647), ((-2147483648), 2147483647), ((-2147483648), 2147483647), ((-2147483648), 2147483647), ((-2147483648), 2147483647), ((-2147483648), 2147483647), (6, 6), (2, 2)])
def k_T13 : xS := ([(216, 48, [(0, (3, none, 63))], [], 0, 0), (0, 258, [(3, (0, none, 0)), (2, (3, none, 63)), (1, (3, none, 0)), (0, (4, none, 0))], [(0, none, 0)], 114, 22650)], k_h3, [((-2147483648), 2147483647), ((-2147483648), 2147483647), ((-2147483648), 2147483647), ((-2147483648), 2147483647), ((-2147483648), 2147483647), ((-2147483648), 2147483647), (6, 6), (2, 2)])
theorem k_T13_ok : ∃ n, x_run k_P n k_T13 = true := ⟨490, by decide +kernel⟩
theorem k_T12_ok : ∃ n, x_run k_P n k_T12 = true := x_adv_ok (n := 500) (T := k_T13) (by decide +kernel) k_T13_ok
theorem k_T11_ok : ∃ n, x_run k_P n k_T11 = true := x_adv_ok (n := 500) (T := k_T12) (by decide +kernel) k_T12_ok
theorem k_T10_ok : ∃ n, x_run k_P n k_T10 = true := x_adv_ok (n := 500) (T := k_T11) (by decide +kernel) k_T11_ok
def k_T14 : xS := ([(0, 263, [(3, (0, none, 0)), (2, (3, none, 63)), (1, (3, none, 0)), (0, (4, none, 0))], [], 114, 22650)], k_h1, [((-2147483648), 2147483647), ((-2147483648), 2147483647), ((-2147483648), 2147483647), ((-2147483648), 2147483647), ((-2147483648), 2147483647), ((-2147483648), 2147483647), (6, 6), (3, 3)])
theorem k_T14_ok : ∃ n, x_run k_P n k_T14 = true := ⟨132, by decide +kernel⟩
def k_T15 : xS := ([(0, 286, [(3, (0, none, 0)), (2, (3, none, 63)), (1, (3, none, 0)), (0, (4, none, 0))], [], 114, 22650)], k_h1, [((-2147483648), 2147483647), ((-2147483648), 2147483647), ((-2147483648), 2147483647), ((-2147483648), 2147483647), ((-2147483648), 2147483647), ((-2147483648), 2147483647), (6, 6), (4, 4)])
theorem k_T15_ok : ∃ n, x_run k_P n k_T15 = true := ⟨484, by decide +kernel⟩
def k_T16 : xS := ([(0, 309, [(3, (0, none, 0)), (2, (3, none, 63)), (1, (3, none, 0)), (0, (4, none, 0))], [], 114, 22650)], k_h1, [((-2147483648), 2147483647), ((-2147483648), 2147483647), ((-2147483648), 2147483647), ((-2147483648), 2147483647), ((-2147483648), 2147483647), ((-2147483648), 2147483647), (6, 6), (5, 5)])
theorem k_T16_ok : ∃ n, x_run k_P n k_T16 = true := ⟨780, by decide +kernel⟩
def k_T17 : xS := ([(0, 352, [(3, (0, none, 0)), (2, (3, none, 63)), (1, (3, none, 0)), (0, (4, none, 0))], [], 114, 22650)], k_h1, [((-2147483648), 2147483647), ((-2147483648), 2147483647), ((-2147483648), 2147483647), ((-2147483648), 2147483647), ((-2147483648), 2147483647), ((-2147483648), 2147483647), (6, 6), (6, 6)])
theorem k_T17_ok : ∃ n, x_run k_P n k_T17 = true := ⟨111, by decide +kernel⟩
def k_T18 : xS := ([(0, 385, [(3, (0, none, 0)), (2, (3, none, 63)), (1, (3, none, 0)), (0, (4, none, 0))], [], 114, 22650)], k_h1, [((-2147483648), 2147483647), ((-2147483648), 2147483647), ((-2147483648), 2147483647), ((-2147483648), 2147483647), ((-2147483648), 2147483647), ((-2147483648), 2147483647), (6, 6), (7, 7)])
theorem k_T18_ok : ∃ n, x_run k_P n k_T18 = true := ⟨125, by decide +kernel⟩
def k_T19 : xS := ([(0, 418, [(3, (0, none, 0)), (2, (3, none, 63)), (1, (3, none, 0)), (0, (4, none, 0))], [], 114, 22650)], k_h1, [((-2147483648), 2147483647), ((-2147483648), 2147483647), ((-2147483648), 2147483647), ((-2147483648), 2147483647), ((-2147483648), 2147483647), ((-2147483648), 2147483647), (6, 6), (8, 8)])
theorem k_T19_ok : ∃ n, x_run k_P n k_T19 = true := ⟨111, by decide +kernel⟩
def k_T20 : xS := ([(0, 451, [(3, (0, none, 0)), (2, (3, none, 63)), (1, (3, none, 0)), (0, (4, none, 0))], [], 114, 22650)], k_h1, [((-2147483648), 2147483647), ((-2147483648), 2147483647), ((-2147483648), 2147483647), ((-2147483648), 2147483647), ((-2147483648), 2147483647), ((-2147483648), 2147483647), (6, 6), (9, 9)])
theorem k_T20_ok : ∃ n, x_run k_P n k_T20 = true := ⟨113, by decide +kernel⟩
def k_T21 : xS := ([(0, 484, [(3, (0, none, 0)), (2, (3, none, 63)), (1, (3, none, 0)), (0, (4, none, 0))], [], 114, 22650)], k_h1, [((-2147483648), 2147483647), ((-2147483648), 2147483647), ((-2147483648), 2147483647), ((-2147483648), 2147483647), ((-2147483648), 2147483647), ((-2147483648), 2147483647), (6, 6), (10, 10)])
theorem k_T21_ok : ∃ n, x_run k_P n k_T21 = true := ⟨149, by decide +kernel⟩
def k_T22 : xS := ([(0, 527, [(3, (0, none, 0)), (2, (3, none, 63)), (1, (3, none, 0)), (0, (4, none, 0))], [], 114, 22650)], k_h1, [((-2147483648), 2147483647), ((-2147483648), 2147483647), ((-2147483648), 2147483647), ((-2147483648), 2147483647), ((-2147483648), 2147483647), ((-2147483648), 2147483647), (6, 6), (11, 11)])
theorem k_T22_ok : ∃ n, x_run k_P n k_T22 = true := ⟨221, by decide +kernel⟩
def k_T23 : xS := ([(0, 570, [(3, (0, none, 0)), (2, (3, none, 63)), (1, (3, none, 0)), (0, (4, none, 0))], [], 114, 22650)], k_h1, [((-2147483648), 2147483647), ((-2147483648), 2147483647), ((-2147483648), 2147483647), ((-2147483648), 2147483647), ((-2147483648), 2147483647), ((-2147483648), 2147483647), (6, 6), (12, 12)])
theorem k_T23_ok : ∃ n, x_run k_P n k_T23 = true := ⟨173, by decide +kernel⟩
def k_T24 : xS := ([(0, 603, [(3, (0, none, 0)), (2, (3, none, 63)), (1, (3, none, 0)), (0, (4, none, 0))], [], 114, 22650)], k_h1, [((-2147483648), 2147483647), ((-2147483648), 2147483647), ((-2147483648), 2147483647), ((-2147483648), 2147483647), ((-2147483648), 2147483647), ((-2147483648), 2147483647), (6, 6), (13, 13)])
theorem k_T24_ok : ∃ n, x_run k_P n k_T24 = true := ⟨199, by decide +kernel⟩
def k_T25 : xS := ([(0, 636, [(3, (0, none, 0)), (2, (3, none, 63)), (1, (3, none, 0)), (0, (4, none, 0))], [], 114, 22650)], k_h1, [((-2147483648), 2147483647), ((-2147483648), 2147483647), ((-2147483648), 2147483647), ((-2147483648), 2147483647), ((-2147483648), 2147483647), ((-2147483648), 2147483647), (6, 6), (14, 14)])
def k_T26 : xS := ([(150, 2, [(0, (3, none, 0)), (1, (0, some 1, 0))], [(0, none, 1), (0, some 1, 0)], 0, 0), (0, 645, [(3, (0, none, 0)), (2, (3, none, 63)), (1, (3, none, 0)), (0, (4, none, 0))], [], 114, 22650)], k_h1, [((-2147483648), 2147483647), ((-2147483648), 2147483647), ((-2147483648), 2147483647), ((-2147483648), 2147483647), ((-2147483648), 2147483647), ((-2147483648), 2147483647), (6, 6), (14, 14)])
def k_T27 : xS := ([(150, 11, [(0, (3, none, 0)), (1, (0, some 1, 0))], [], 0, 0), (0, 645, [(3, (0, none, 0)), (2, (3, none, 63)), (1, (3, none, 0)), (0, (4, none, 0))], [], 114, 22650)], k_h1, [((-2147483648), 2147483647), ((-2147483648), 0), ((-2147483648), 2147483647), ((-2147483648), 2147483647), ((-2147483648), 2147483647), ((-2147483648), 2147483647), (6, 6), (14, 14)])
theorem k_T27_ok : ∃ n, x_run k_P n k_T27 = true := ⟨68, by decide +kernel⟩
def k_T28 : xS := ([(150, 5, [(0, (3, none, 0)), (1, (0, some 1, 0))], [], 0, 0), (0, 645, [(3, (0, none, 0)), (2, (3, none, 63)), (1, (3, none, 0)), (0, (4, none, 0))], [], 114, 22650)], k_h1, [((-2147483648), 2147483647), (1, 2147483647), ((-2147483648), 2147483647), ((-2147483648), 2147483647), ((-2147483648), 2147483647), ((-2147483648), 2147483647), (6, 6), (14, 14)])
def k_T29 : xS := ([(150, 8, [(0, (3, none, 0)), (1, (0, some 1, 0))], [(0, none, 30), (0, some 1, 0)], 0, 0), (0, 645, [(3, (0, none, 0)), (2, (3, none, 63)), (1, (3, none, 0)), (0, (4, none, 0))], [], 114, 22650)], k_h1, [((-2147483648), 2147483647), (1, 2147483647), ((-2147483648), 2147483647), ((-2147483648), 2147483647), ((-2147483648), 2147483647), ((-2147483648), 2147483647), (6, 6), (14, 14)])
def k_T30 : xS := ([(150, 17, [(0, (3, none, 0)), (1, (0, some 1, 0))], [], 0, 0), (0, 645, [(3, (0, none, 0)), (2, (3, none, 63)), (1, (3, none, 0)), (0, (4, none, 0))], [], 114, 22650)], k_h1, [((-2147483648), 2147483647), (1, 30), ((-2147483648), 2147483647), ((-2147483648), 2147483647), ((-2147483648), 2147483647), ((-2147483648), 2147483647), (6, 6), (14, 14)])
def k_h4 : List xC := [.inr (11, [(3, none, 1), (3, none, 3), (3, none, 7), (3, none, 44), (3, none, 46), (3, none, 51), (3, none, 54), (3, none, 61), (3, none, 62), (0, none, 0), (0, none, 0), (0, none, (-1)), (0, none, 1)]), .inr (8, [(3, none, 2), (0, none, 0)]), .inl (0, 1600, 0, 0, []), .inr (10, [(3, none, 4), (3, none, 5), (0, none, 0)]), .inr (7, [(3, none, 5)]), .inr (3, [(3, none, 6), (0, none, 0), (0, none, 0), (0, none, 0), (0, none, 0), (0, none, 0), (0, none, 0), (0, none, 0)]), .inl (0, 0, 0, 0, []), .inr (5, [(3, none, 8), (3, none, 25), (3, none, 42), (3, none, 43)]), .inr (9, [(0, none, 0), (0, none, 0), (0, none, 0), (0, none, (-1)), (3, none, 9), (3, none, 10), (3, none, 11), (3, none, 12), (3, none, 13), (3, none, 14), (3, none, 15), (3, none, 16), (3, none, 17), (3, none, 18), (3, none, 19), (3, none, 22)]), .inl (0, 8, 0, 0, []), .inl (0, 8, 0, 0, []), .inl (0, 8, 0, 0, []), .inl (0, 64, 0, 0, []), .inl (0, 8, 0, 0, []), .inl (0, 8, 0, 0, []), .inl (0, 8, 0, 0, []), .inl (0, 8, 0, 0, []), .inl (0, 8, 0, 0, []), .inl (0, 8, 0, 0, []), .inr (1, [(3, none, 20), (3, none, 21), (0, none, 0)]), .inl (0, 64, 0, 0, []), .inl (0, 32, 0, 0, []), .inr (1, [(3, none, 23), (3, none, 24), (0, none, 0)]), .inl (0, 64, 0, 0, []), .inl (0, 32, 0, 0, []), .inr (9, [(0, none, 0), (0, none, 0), (0, none, 0), (0, none, (-1)), (3, none, 26), (3, none, 27), (3, none, 28), (3, none, 29), (3, none, 30), (3, none, 31), (3, none, 32), (3, none, 33), (3, none, 34), (3, none, 35), (3, none, 36), (3, none, 39)]), .inl (0, 8, 0, 0, []), .inl (0, 8, 0, 0, []), .inl (0, 8, 0, 0, []), .inl (0, 64, 0, 0, []), .inl (0, 8, 0, 0, []), .inl (0, 8, 0, 0, []), .inl (0, 8, 0, 0, []), .inl (0, 8, 0, 0, []), .inl (0, 8, 0, 0, []), .inl (0, 8, 0, 0, []), .inr (1, [(3, none, 37), (3, none, 38), (0, none, 0)]), .inl (0, 64, 0, 0, []), .inl (0, 32, 0, 0, []), .inr (1, [(3, none, 40), (3, none, 41), (0, none, 0)]), .inl (0, 64, 0, 0, []), .inl (0, 32, 0, 0, []), .inl (0, 81, 0, 0, []), .inl (0, 6, 0, 0, []), .inr (2, [(3, none, 45), (0, none, 1), (0, none, 1)]), .inl (0, 1620, 0, 0, []), .inr (4, [(3, none, 47), (3, none, 48), (3, none, 49), (3, none, 50), (0, none, 0), (0, none, 0), (0, none, (-1))]), .inl (0, 64, 0, 0, []), .inl (0, 64, 0, 0, []), .inl (0, 8, 0, 0, []), .inl (0, 8, 0, 0, []), .inr (0, [(3, none, 52), (3, none, 53), (0, none, 0)]), .inl (0, 104, 0, 0, []), .inl (0, 12, 0, 0, []), .inr (6, [(3, none, 55), (3, none, 56), (3, none, 57), (3, none, 58), (3, none, 59), (3, none, 60), (0, none, 0), (0, none, 1)]), .inl (0, 8, 0, 0, []), .inl (0, 8, 0, 0, []), .inl (0, 2048, 0, 0, []), .inl (0, 256, 0, 0, []), .inl (0, 256, 0, 0, []), .inl (0, 64, 0, 0, []), .inl (0, 6, 0, 0, []), .inl (0, 73, 0, 0, []), .inr (12, [(3, none, 64), (0, none, 0), (0, none, 0), (0, none, 0), (0, none, 0), (0, none, 0), (0, none, 0), (1, none, 0), (0, none, 0), (0, none, 0), (0, none, (-1)), (0, none, 0), (0, none, (-1)), (0, none, (-1)), (0, none, 0), (3, none, 65), (3, none, 66), (3, none, 67), (3, none, 68), (3, none, 69), (3, none, 70), (3, none, 71), (3, none, 72), (3, none, 73), (3, none, 74), (3, none, 75), (3, none, 76), (3, none, 77), (3, none, 78), (3, none, 79), (3, none, 80), (3, none, 81), (3, none, 82), (3, none, 83), (3, none, 84), (0, none, 0), (0, none, 1), (3, none, 85), (3, none, 86), (3, none, 87), (3, none, 88), (3, none, 89), (0, none, 0), (0, none, 0), (3, none, 90), (0, none, 0), (0, none, 0), (3, none, 91), (3, none, 92), (3, none, 93), (3, none, 94), (3, none, 95), (3, none, 96), (3, none, 97), (3, none, 98), (3, none, 99), (3, none, 100), (3, none, 101), (0, none, 0), (0, none, 0), (1, none, 1), (3, none, 102), (0, none, 0), (0, none, 0), (0, none, 0), (3, none, 103), (3, none, 104), (3, none, 105), (0, none, 0), (3, none, 106), (0, none, 0), (3, none, 107), (0, none, 0), (3, none, 108), (3, none, 109), (3, none, 110), (3, none, 111), (3, none, 112), (3, none, 113), (0, none, 0)]), .inl (0, 1800, 0, 0, []), .inl (0, 2, 0, 0, []), .inl (0, 16, 0, 0, []), .inl (0, 16, 0, 0, []), .inl (0, 128, 0, 0, []), .inl (0, 2, 0, 0, []), .inl (0, 16, 0, 0, []), .inl (0, 16, 0, 0, []), .inl (0, 16, 0, 0, []), .inl (0, 16, 0, 0, []), .inl (0, 16, 0, 0, [(15, (0, none, (-1))), (14, (0, none, (-1))), (13, (0, none, (-1))), (12, (0, none, (-1))), (11, (0, none, (-1))), (10, (0, none, (-1))), (9, (0, none, (-1))), (8, (0, none, (-1))), (7, (0, none, (-1))), (6, (0, none, (-1))), (5, (0, none, (-1))), (4, (0, none, (-1))), (3, (0, none, (-1))), (2, (0, none, (-1))), (1, (0, none, (-1))), (0, (0, none, (-1)))]), .inl (0, 2, 0, 0, [(0, (0, none, (-1)))]), .inl (0, 2, 0, 0, []), .inl (0, 2, 0, 0, [(0, (0, none, (-1)))]), .inl (0, 2, 0, 0, []), .inl (0, 2, 0, 0, []), .inl (0, 2, 0, 0, [(0, (0, none, (-1)))]), .inl (0, 3200, 0, 0, []), .inl (0, 3200, 0, 0, []), .inl (1, 16, 0, 0, []), .inl (1, 16, 0, 0, []), .inl (0, 20, 0, 0, []), .inl (0, 20, 0, 0, []), .inl (2, 20, 0, 0, []), .inl (0, 20, 0, 0, []), .inl (0, 20, 0, 0, []), .inl (0, 500, 0, 0, []), .inl (0, 6, 0, 0, []), .inl (0, 176, 0, 0, []), .inl (0, 176, 0, 0, []), .inl (0, 176, 0, 0, []), .inl (0, 176, 0, 0, []), .inl (0, 176, 0, 0, []), .inl (0, 22, 0, 0, []), .inl (0, 880, 0, 0, []), .inl (0, 880, 0, 0, []), .inl (0, 880, 0, 0, []), .inl (0, 880, 0, 0, []), .inl (1, 500, 0, 0, []), .inl (0, 64, 0, 0, []), .inl (0, 64, 0, 0, []), .inl (0, 8, 0, 0, []), .inl (0, 12, 0, 0, []), .inl (0, 64, 0, 0, []), .inl (0, 8, 0, 0, []), .inl (0, 8, 0, 0, []), .inl (0, 600, 0, 0, []), .inl (0, 600, 0, 0, []), .inl (0, 8, 0, 0, []), .inl (0, 80, 0, 0, [])]
def k_T31 : xS := ([(150, 37, [(3, (0, none, 1)), (4, (0, none, 0)), (2, (0, none, 0)), (0, (3, none, 0)), (1, (0, some 1, 0))], [(0, some 1, 0), (0, none, 1)], 0, 0), (0, 645, [(3, (0, none, 0)), (2, (3, none, 63)), (1, (3, none, 0)), (0, (4, none, 0))], [], 114, 22650)], k_h4, [((-2147483648), 2147483647), (1, 30), ((-2147483648), 2147483647), ((-2147483648), 2147483647), ((-2147483648), 2147483647), ((-2147483648), 2147483647), (6, 6), (14, 14)])
def k_T32 : xS := ([(150, 79, [(3, (0, none, 1)), (4, (0, none, 0)), (2, (0, none, 0)), (0, (3, none, 0)), (1, (0, some 1, 0))], [], 0, 0), (0, 645, [(3, (0, none, 0)), (2, (3, none, 63)), (1, (3, none, 0)), (0, (4, none, 0))], [], 114, 22650)], k_h4, [((-2147483648), 2147483647), (1, 1), ((-2147483648), 2147483647), ((-2147483648), 2147483647), ((-2147483648), 2147483647), ((-2147483648), 2147483647), (6, 6), (14, 14)])
theorem k_T32_ok : ∃ n, x_run k_P n k_T32 = true := ⟨569, by decide +kernel⟩
def k_T33 : xS := ([(150, 40, [(3, (0, none, 1)), (4, (0, none, 0)), (2, (0, none, 0)), (0, (3, none, 0)), (1, (0, some 1, 0))], [], 0, 0), (0, 645, [(3, (0, none, 0)), (2, (3, none, 63)), (1, (3, none, 0)), (0, (4, none, 0))], [], 114, 22650)], k_h4, [((-2147483648), 2147483647), (2, 30), ((-2147483648), 2147483647), ((-2147483648), 2147483647), ((-2147483648), 2147483647), ((-2147483648), 2147483647), (6, 6), (14, 14)])
def k_T34 : xS := ([(150, 37, [(3, (0, none, 2)), (4, (0, none, 0)), (2, (0, none, 0)), (0, (3, none, 0)), (1, (0, some 1, 0))], [(0, some 1, 0), (0, none, 2)], 0, 0), (0, 645, [(3, (0, none, 0)), (2, (3, none, 63)), (1, (3, none, 0)), (0, (4, none, 0))], [], 114, 22650)], k_h4, [((-2147483648), 2147483647), (2, 30), ((-2147483648), 2147483647), ((-2147483648), 2147483647), ((-2147483648), 2147483647), ((-2147483648), 2147483647), (6, 6), (14, 14)])
def k_T35 : xS := ([(150, 79, [(3, (0, none, 2)), (4, (0, none, 0)), (2, (0, none, 0)), (0, (3, none, 0)), (1, (0, some 1, 0))], [], 0, 0), (0, 645, [(3, (0, none, 0)), (2, (3, none, 63)), (1, (3, none, 0)), (0, (4, none, 0))], [], 114, 22650)], k_h4, [((-2147483648), 2147483647), (2, 2), ((-2147483648), 2147483647), ((-2147483648), 2147483647), ((-2147483648), 2147483647), ((-2147483648), 2147483647), (6, 6), (14, 14)])
theorem k_T35_ok : ∃ n, x_run k_P n k_T35 = true := ⟨583, by decide +kernel⟩
def k_T36 : xS := ([(150, 40, [(3, (0, none, 2)), (4, (0, none, 0)), (2, (0, none, 0)), (0, (3, none, 0)), (1, (0, some 1, 0))], [], 0, 0), (0, 645, [(3, (0, none, 0)), (2, (3, none, 63)), (1, (3, none, 0)), (0, (4, none, 0))], [], 114, 22650)], k_h4, [((-2147483648), 2147483647), (3, 30), ((-2147483648), 2147483647), ((-2147483648), 2147483647), ((-2147483648), 2147483647), ((-2147483648), 2147483647), (6, 6), (14, 14)])
def k_T37 : xS := ([(150, 37, [(3, (0, none, 3)), (4, (0, none, 0)), (2, (0, none, 0)), (0, (3, none, 0)), (1, (0, some 1, 0))], [(0, some 1, 0), (0, none, 3)], 0, 0), (0, 645, [(3, (0, none, 0)), (2, (3, none, 63)), (1, (3, none, 0)), (0, (4, none, 0))], [], 114, 22650)], k_h4, [((-2147483648), 2147483647), (3, 30), ((-2147483648), 2147483647), ((-2147483648), 2147483647), ((-2147483648), 2147483647), ((-2147483648), 2147483647), (6, 6), (14, 14)])
def k_T38 : xS := ([(150, 79, [(3, (0, none, 3)), (4, (0, none, 0)), (2, (0, none, 0)), (0, (3, none, 0)), (1, (0, some 1, 0))], [], 0, 0), (0, 645, [(3, (0, none, 0)), (2, (3, none, 63)), (1, (3, none, 0)), (0, (4, none, 0))], [], 114, 22650)], k_h4, [((-2147483648), 2147483647), (3, 3), ((-2147483648), 2147483647), ((-2147483648), 2147483647), ((-2147483648), 2147483647), ((-2147483648), 2147483647), (6, 6), (14, 14)])
theorem k_T38_ok : ∃ n, x_run k_P n k_T38 = true := ⟨597, by decide +kernel⟩
def k_T39 : xS := ([(150, 40, [(3, (0, none, 3)), (4, (0, none, 0)), (2, (0, none, 0)), (0, (3, none, 0)), (1, (0, some 1, 0))], [], 0, 0), (0, 645, [(3, (0, none, 0)), (2, (3, none, 63)), (1, (3, none, 0)), (0, (4, none, 0))], [], 114, 22650)], k_h4, [((-2147483648), 2147483647), (4, 30), ((-2147483648), 2147483647), ((-2147483648), 2147483647), ((-2147483648), 2147483647), ((-2147483648), 2147483647), (6, 6), (14, 14)])
def k_T40 : xS := ([(150, 37, [(3, (0, none, 4)), (4, (0, none, 0)), (2, (0, none, 0)), (0, (3, none, 0)), (1, (0, some 1, 0))], [(0, some 1, 0), (0, none, 4)], 0, 0), (0, 645, [(3, (0, none, 0)), (2, (3, none, 63)), (1, (3, none, 0)), (0, (4, none, 0))], [], 114, 22650)], k_h4, [((-2147483648), 2147483647), (4, 30), ((-2147483648), 2147483647), ((-2147483648), 2147483647), ((-2147483648), 2147483647), ((-2147483648), 2147483647), (6, 6), (14, 14)])
def k_T41 : xS := ([(150, 79, [(3, (0, none, 4)), (4, (0, none, 0)), (2, (0, none, 0)), (0, (3, none, 0)), (1, (0, some 1, 0))], [], 0, 0), (0, 645, [(3, (0, none, 0)), (2, (3, none, 63)), (1, (3, none, 0)), (0, (4, none, 0))], [], 114, 22650)], k_h4, [((-2147483648), 2147483647), (4, 4), ((-2147483648), 2147483647), ((-2147483648), 2147483647), ((-2147483648), 2147483647), ((-2147483648), 2147483647), (6, 6), (14, 14)])
theorem k_T41_ok : ∃ n, x_run k_P n k_T41 = true := ⟨611, by decide +kernel⟩
def k_T42 : xS := ([(150, 40, [(3, (0, none, 4)), (4, (0, none, 0)), (2, (0, none, 0)), (0, (3, none, 0)), (1, (0, some 1, 0))], [], 0, 0), (0, 645, [(3, (0, none, 0)), (2, (3, none, 63)), (1, (3, none, 0)), (0, (4, none, 0))], [], 114, 22650)], k_h4, [((-2147483648), 2147483647), (5, 30), ((-2147483648), 2147483647), ((-2147483648), 2147483647), ((-2147483648), 2147483647), ((-2147483648), 2147483647), (6, 6), (14, 14)])
def k_T43 : xS := ([(150, 37, [(3, (0, none, 5)), (4, (0, none, 0)), (2, (0, none, 0)), (0, (3, none, 0)), (1, (0, some 1, 0))], [(0, some 1, 0), (0, none, 5)], 0, 0), (0, 645, [(3, (0, none, 0)), (2, (3, none, 63)), (1, (3, none, 0)), (0, (4, none, 0))], [], 114, 22650)], k_h4, [((-2147483648), 2147483647), (5, 30), ((-2147483648), 2147483647), ((-2147483648), 2147483647), ((-2147483648), 2147483647), ((-2147483648), 2147483647), (6, 6), (14, 14)])
def k_T44 : xS := ([(150, 79, [(3, (0, none, 5)), (4, (0, none, 0)), (2, (0, none, 0)), (0, (3, none, 0)), (1, (0, some 1, 0))], [], 0, 0), (0, 645, [(3, (0, none, 0)), (2, (3, none, 63)), (1, (3, none, 0)), (0, (4, none, 0))], [], 114, 22650)], k_h4, [((-2147483648), 2147483647), (5, 5), ((-2147483648), 2147483647), ((-2147483648), 2147483647), ((-2147483648), 2147483647), ((-2147483648), 2147483647), (6, 6), (14, 14)])
theorem k_T44_ok : ∃ n, x_run k_P n k_T44 = true := ⟨625, by decide +kernel⟩
def k_T45 : xS := ([(150, 40, [(3, (0, none, 5)), (4, (0, none, 0)), (2, (0, none, 0)), (0, (3, none, 0)), (1, (0, some 1, 0))], [], 0, 0), (0, 645, [(3, (0, none, 0)), (2, (3, none, 63)), (1, (3, none, 0)), (0, (4, none, 0))], [], 114, 22650)], k_h4, [((-2147483648), 2147483647), (6, 30), ((-2147483648), 2147483647), ((-2147483648), 2147483647), ((-2147483648), 2147483647), ((-2147483648), 2147483647), (6, 6), (14, 14)])
def k_T46 : xS := ([(150, 37, [(3, (0, none, 6)), (4, (0, none, 0)), (2, (0, none, 0)), (0, (3, none, 0)), (1, (0, some 1, 0))], [(0, some 1, 0), (0, none, 6)], 0, 0), (0, 645, [(3, (0, none, 0)), (2, (3, none, 63)), (1, (3, none, 0)), (0, (4, none, 0))], [], 114, 22650)], k_h4, [((-2147483648), 2147483647), (6, 30), ((-2147483648), 2147483647), ((-2147483648), 2147483647), ((-2147483648), 2147483647), ((-2147483648), 2147483647), (6, 6), (14, 14)])
def k_T47 : xS := ([(150, 79, [(3, (0, none, 6)), (4, (0, none, 0)), (2, (0, none, 0)), (0, (3, none, 0)), (1, (0, some 1, 0))], [], 0, 0), (0, 645, [(3, (0, none, 0)), (2, (3, none, 63)), (1, (3, none, 0)), (0, (4, none, 0))], [], 114, 22650)], k_h4, [((-2147483648), 2147483647), (6, 6), ((-2147483648), 2147483647), ((-2147483648), 2147483647), ((-2147483648), 2147483647), ((-2147483648), 2147483647), (6, 6), (14, 14)])
theorem k_T47_ok : ∃ n, x_run k_P n k_T47 = true := ⟨639, by decide +kernel⟩
def k_T48 : xS := ([(150, 40, [(3, (0, none, 6)), (4, (0, none, 0)), (2, (0, none, 0)), (0, (3, none, 0)), (1, (0, some 1, 0))], [], 0, 0), (0, 645, [(3, (0, none, 0)), (2, (3, none, 63)), (1, (3, none, 0)), (0, (4, none, 0))], [], 114, 22650)], k_h4, [((-2147483648), 2147483647), (7, 30), ((-2147483648), 2147483647), ((-2147483648), 2147483647), ((-2147483648), 2147483647), ((-2147483648), 2147483647), (6, 6), (14, 14)])
def k_T49 : xS := ([(150, 37, [(3, (0, none, 7)), (4, (0, none, 0)), (2, (0, none, 0)), (0, (3, none, 0)), (1, (0, some 1, 0))], [(0, some 1, 0), (0, none, 7)], 0, 0), (0, 645, [(3, (0, none, 0)), (2, (3, none, 63)), (1, (3, none, 0)), (0, (4, none, 0))], [], 114, 22650)], k_h4, [((-2147483648), 2147483647), (7, 30), ((-2147483648), 2147483647), ((-2147483648), 2147483647), ((-2147483648), 2147483647), ((-2147483648), 2147483647), (6, 6), (14, 14)])
def k_T50 : xS := ([(150, 79, [(3, (0, none, 7)), (4, (0, none, 0)), (2, (0, none, 0)), (0, (3, none, 0)), (1, (0, some 1, 0))], [], 0, 0), (0, 645, [(3, (0, none, 0)), (2, (3, none, 63)), (1, (3, none, 0)), (0, (4, none, 0))], [], 114, 22650)], k_h4, [((-2147483648), 2147483647), (7, 7), ((-2147483648), 2147483647), ((-2147483648), 2147483647), ((-2147483648), 2147483647), ((-2147483648), 2147483647), (6, 6), (14, 14)])
theorem k_T50_ok : ∃ n, x_run k_P n k_T50 = true := ⟨653, by decide +kernel⟩
def k_T51 : xS := ([(150, 40, [(3, (0, none, 7)), (4, (0, none, 0)), (2, (0, none, 0)), (0, (3, none, 0)), (1, (0, some 1, 0))], [], 0, 0), (0, 645, [(3, (0, none, 0)), (2, (3, none, 63)), (1, (3, none, 0)), (0, (4, none, 0))], [], 114, 22650)], k_h4, [((-2147483648), 2147483647), (8, 30), ((-2147483648), 2147483647), ((-2147483648), 2147483647), ((-2147483648), 2147483647), ((-2147483648), 2147483647), (6, 6), (14, 14)])
def k_T52 : xS := ([(150, 37, [(3, (0, none, 8)), (4, (0, none, 0)), (2, (0, none, 0)), (0, (3, none, 0)), (1, (0, some 1, 0))], [(0, some 1, 0), (0, none, 8)], 0, 0), (0, 645, [(3, (0, none, 0)), (2, (3, none, 63)), (1, (3, none, 0)), (0, (4, none, 0))], [], 114, 22650)], k_h4, [((-2147483648), 2147483647), (8, 30), ((-2147483648), 2147483647), ((-2147483648), 2147483647), ((-2147483648), 2147483647), ((-2147483648), 2147483647), (6, 6), (14, 14)])
def k_T53 : xS := ([(150, 79, [(3, (0, none, 8)), (4, (0, none, 0)), (2, (0, none, 0)), (0, (3, none, 0)), (1, (0, some 1, 0))], [], 0, 0), (0, 645, [(3, (0, none, 0)), (2, (3, none, 63)), (1, (3, none, 0)), (0, (4, none, 0))], [], 114, 22650)], k_h4, [((-2147483648), 2147483647), (8, 8), ((-2147483648), 2147483647), ((-2147483648), 2147483647), ((-2147483648), 2147483647), ((-2147483648), 2147483647), (6, 6), (14, 14)])
theorem k_T53_ok : ∃ n, x_run k_P n k_T53 = true := ⟨667, by decide +kernel⟩
def k_T54 : xS := ([(150, 40, [(3, (0, none, 8)), (4, (0, none, 0)), (2, (0, none, 0)), (0, (3, none, 0)), (1, (0, some 1, 0))], [], 0, 0), (0, 645, [(3, (0, none, 0)), (2, (3, none, 63)), (1, (3, none, 0)), (0, (4, none, 0))], [], 114, 22650)], k_h4, [((-2147483648), 2147483647), (9, 30), ((-2147483648), 2147483647), ((-2147483648), 2147483647), ((-2147483648), 2147483647), ((-2147483648), 2147483647), (6, 6), (14, 14)])
def k_T55 : xS := ([(150, 37, [(3, (0, none, 9)), (4, (0, none, 0)), (2, (0, none, 0)), (0, (3, none, 0)), (1, (0, some 1, 0))], [(0, some 1, 0), (0, none, 9)], 0, 0), (0, 645, [(3, (0, none, 0)), (2, (3, none, 63)), (1, (3, none, 0)), (0, (4, none, 0))], [], 114, 22650)], k_h4, [((-2147483648), 2147483647), (9, 30), ((-2147483648), 2147483647), ((-2147483648), 2147483647), ((-2147483648), 2147483647), ((-2147483648), 2147483647), (6, 6), (14, 14)])
def k_T56 : xS := ([(150, 79, [(3, (0, none, 9)), (4, (0, none, 0)), (2, (0, none, 0)), (0, (3, none, 0)), (1, (0, some 1, 0))], [], 0, 0), (0, 645, [(3, (0, none, 0)), (2, (3, none, 63)), (1, (3, none, 0)), (0, (4, none, 0))], [], 114, 22650)], k_h4, [((-2147483648), 2147483647), (9, 9), ((-2147483648), 2147483647), ((-2147483648), 2147483647), ((-2147483648), 2147483647), ((-2147483648), 2147483647), (6, 6), (14, 14)])
theorem k_T56_ok : ∃ n, x_run k_P n k_T56 = true := ⟨681, by decide +kernel⟩
def k_T57 : xS := ([(150, 40, [(3, (0, none, 9)), (4, (0, none, 0)), (2, (0, none, 0)), (0, (3, none, 0)), (1, (0, some 1, 0))], [], 0, 0), (0, 645, [(3, (0, none, 0)), (2, (3, none, 63)), (1, (3, none, 0)), (0, (4, none, 0))], [], 114, 22650)], k_h4, [((-2147483648), 2147483647), (10, 30), ((-2147483648), 2147483647), ((-2147483648), 2147483647), ((-2147483648), 2147483647), ((-2147483648), 2147483647), (6, 6), (14, 14)])
def k_T58 : xS := ([(150, 37, [(3, (0, none, 10)), (4, (0, none, 0)), (2, (0, none, 0)), (0, (3, none, 0)), (1, (0, some 1, 0))], [(0, some 1, 0), (0, none, 10)], 0, 0), (0, 645, [(3, (0, none, 0)), (2, (3, none, 63)), (1, (3, none, 0)), (0, (4, none, 0))], [], 114, 22650)], k_h4, [((-2147483648), 2147483647), (10, 30), ((-2147483648), 2147483647), ((-2147483648), 2147483647), ((-2147483648), 2147483647), ((-2147483648), 2147483647), (6, 6), (14, 14)])
def k_T59 : xS := ([(150, 79, [(3, (0, none, 10)), (4, (0, none, 0)), (2, (0, none, 0)), (0, (3, none, 0)), (1, (0, some 1, 0))], [], 0, 0), (0, 645, [(3, (0, none, 0)), (2, (3, none, 63)), (1, (3, none, 0)), (0, (4, none, 0))], [], 114, 22650)], k_h4, [((-2147483648), 2147483647), (10, 10), ((-2147483648), 2147483647), ((-2147483648), 2147483647), ((-2147483648), 2147483647), ((-2147483648), 2147483647), (6, 6), (14, 14)])
theorem k_T59_ok : ∃ n, x_run k_P n k_T59 = true := ⟨695, by decide +kernel⟩
def k_T60 : xS := ([(150, 40, [(3, (0, none, 10)), (4, (0, none, 0)), (2, (0, none, 0)), (0, (3, none, 0)), (1, (0, some 1, 0))], [], 0, 0), (0, 645, [(3, (0, none, 0)), (2, (3, none, 63)), (1, (3, none, 0)), (0, (4, none, 0))], [], 114, 22650)], k_h4, [((-2147483648), 2147483647), (11, 30), ((-2147483648), 2147483647), ((-2147483648), 2147483647), ((-2147483648), 2147483647), ((-2147483648), 2147483647), (6, 6), (14, 14)])
def k_T61 : xS := ([(150, 37, [(3, (0, none, 11)), (4, (0, none, 0)), (2, (0, none, 0)), (0, (3, none, 0)), (1, (0, some 1, 0))], [(0, some 1, 0), (0, none, 11)], 0, 0), (0, 645, [(3, (0, none, 0)), (2, (3, none, 63)), (1, (3, none, 0)), (0, (4, none, 0))], [], 114, 22650)], k_h4, [((-2147483648), 2147483647), (11, 30), ((-2147483648), 2147483647), ((-2147483648), 2147483647), ((-2147483648), 2147483647), ((-2147483648), 2147483647), (6, 6), (14, 14)])
def k_T62 : xS := ([(150, 79, [(3, (0, none, 11)), (4, (0, none, 0)), (2, (0, none, 0)), (0, (3, none, 0)), (1, (0, some 1, 0))], [], 0, 0), (0, 645, [(3, (0, none, 0)), (2, (3, none, 63)), (1, (3, none, 0)), (0, (4, none, 0))], [], 114, 22650)], k_h4, [((-2147483648), 2147483647), (11, 11), ((-2147483648), 2147483647), ((-2147483648), 2147483647), ((-2147483648), 2147483647), ((-2147483648), 2147483647), (6, 6), (14, 14)])
theorem k_T62_ok : ∃ n, x_run k_P n k_T62 = true := ⟨709, by decide +kernel⟩
def k_T63 : xS := ([(150, 40, [(3, (0, none, 11)), (4, (0, none, 0)), (2, (0, none, 0)), (0, (3, none, 0)), (1, (0, some 1, 0))], [], 0, 0), (0, 645, [(3, (0, none, 0)), (2, (3, none, 63)), (1, (3, none, 0)), (0, (4, none, 0))], [], 114, 22650)], k_h4, [((-2147483648), 2147483647), (12, 30), ((-2147483648), 2147483647), ((-2147483648), 2147483647), ((-2147483648), 2147483647), ((-2147483648), 2147483647), (6, 6), (14, 14)])
def k_T64 : xS := ([(150, 37, [(3, (0, none, 12)), (4, (0, none, 0)), (2, (0, none, 0)), (0, (3, none, 0)), (1, (0, some 1, 0))], [(0, some 1, 0), (0, none, 12)], 0, 0), (0, 645, [(3, (0, none, 0)), (2, (3, none, 63)), (1, (3, none, 0)), (0, (4, none, 0))], [], 114, 22650)], k_h4, [((-2147483648), 2147483647), (12, 30), ((-2147483648), 2147483647), ((-2147483648), 2147483647), ((-2147483648), 2147483647), ((-2147483648), 2147483647), (6, 6), (14, 14)])
def k_T65 : xS := ([(150, 79, [(3, (0, none, 12)), (4, (0, none, 0)), (2, (0, none, 0)), (0, (3, none, 0)), (1, (0, some 1, 0))], [], 0, 0), (0, 645, [(3, (0, none, 0)), (2, (3, none, 63)), (1, (3, none, 0)), (0, (4, none, 0))], [], 114, 22650)], k_h4, [((-2147483648), 2147483647), (12, 12), ((-2147483648), 2147483647), ((-2147483648), 2147483647), ((-2147483648), 2147483647), ((-2147483648), 2147483647), (6, 6), (14, 14)])
theorem k_T65_ok : ∃ n, x_run k_P n k_T65 = true := ⟨723, by decide +kernel⟩
def k_T66 : xS := ([(150, 40, [(3, (0, none, 12)), (4, (0, none, 0)), (2, (0, none, 0)), (0, (3, none, 0)), (1, (0, some 1, 0))], [], 0, 0), (0, 645, [(3, (0, none, 0)), (2, (3, none, 63)), (1, (3, none, 0)), (0, (4, none, 0))], [], 114, 22650)], k_h4, [((-2147483648), 2147483647), (13, 30), ((-2147483648), 2147483647), ((-2147483648), 2147483647), ((-2147483648), 2147483647), ((-2147483648), 2147483647), (6, 6), (14, 14)])
def k_T67 : xS := ([(150, 37, [(3, (0, none, 13)), (4, (0, none, 0)), (2, (0, none, 0)), (0, (3, none, 0)), (1, (0, some 1, 0))], [(0, some 1, 0), (0, none, 13)], 0, 0), (0, 645, [(3, (0, none, 0)), (2, (3, none, 63)), (1, (3, none, 0)), (0, (4, none, 0))], [], 114, 22650)], k_h4, [((-2147483648), 2147483647), (13, 30), ((-2147483648), 2147483647), ((-2147483648), 2147483647), ((-2147483648), 2147483647), ((-2147483648), 2147483647), (6, 6), (14, 14)])
def k_T68 : xS := ([(150, 79, [(3, (0, none, 13)), (4, (0, none, 0)), (2, (0, none, 0)), (0, (3, none, 0)), (1, (0, some 1, 0))], [], 0, 0), (0, 645, [(3, (0, none, 0)), (2, (3, none, 63)), (1, (3, none, 0)), (0, (4, none, 0))], [], 114, 22650)], k_h4, [((-2147483648), 2147483647), (13, 13), ((-2147483648), 2147483647), ((-2147483648), 2147483647), ((-2147483648), 2147483647), ((-2147483648), 2147483647), (6, 6), (14, 14)])
theorem k_T68_ok : ∃ n, x_run k_P n k_T68 = true := ⟨737, by decide +kernel⟩
def k_T69 : xS := ([(150, 40, [(3, (0, none, 13)), (4, (0, none, 0)), (2, (0, none, 0)), (0, (3, none, 0)), (1, (0, some 1, 0))], [], 0, 0), (0, 645, [(3, (0, none, 0)), (2, (3, none, 63)), (1, (3, none, 0)), (0, (4, none, 0))], [], 114, 22650)], k_h4, [((-2147483648), 2147483647), (14, 30), ((-2147483648), 2147483647), ((-2147483648), 2147483647), ((-2147483648), 2147483647), ((-2147483648), 2147483647), (6, 6), (14, 14)])
def k_T70 : xS := ([(150, 37, [(3, (0, none, 14)), (4, (0, none, 0)), (2, (0, none, 0)), (0, (3, none, 0)), (1, (0, some 1, 0))], [(0, some 1, 0), (0, none, 14)], 0, 0), (0, 645, [(3, (0, none, 0)), (2, (3, none, 63)), (1, (3, none, 0)), (0, (4, none, 0))], [], 114, 22650)], k_h4, [((-2147483648), 2147483647), (14, 30), ((-2147483648), 2147483647), ((-2147483648), 2147483647), ((-2147483648), 2147483647), ((-2147483648), 2147483647), (6, 6), (14, 14)])
def k_T71 : xS := ([(150, 79, [(3, (0, none, 14)), (4, (0, none, 0)), (2, (0, none, 0)), (0, (3, none, 0)), (1, (0, some 1, 0))], [], 0, 0), (0, 645, [(3, (0, none, 0)), (2, (3, none, 63)), (1, (3, none, 0)), (0, (4, none, 0))], [], 114, 22650)], k_h4, [((-2147483648), 2147483647), (14, 14), ((-2147483648), 2147483647), ((-2147483648), 2147483647), ((-2147483648), 2147483647), ((-2147483648), 2147483647), (6, 6), (14, 14)])
theorem k_T71_ok : ∃ n, x_run k_P n k_T71 = true := ⟨751, by decide +kernel⟩
def k_T72 : xS := ([(150, 40, [(3, (0, none, 14)), (4, (0, none, 0)), (2, (0, none, 0)), (0, (3, none, 0)), (1, (0, some 1, 0))], [], 0, 0), (0, 645, [(3, (0, none, 0)), (2, (3, none, 63)), (1, (3, none, 0)), (0, (4, none, 0))], [], 114, 22650)], k_h4, [((-2147483648), 2147483647), (15, 30), ((-2147483648), 2147483647), ((-2147483648), 2147483647), ((-2147483648), 2147483647), ((-2147483648), 2147483647), (6, 6), (14, 14)])
def k_T73 : xS := ([(150, 37, [(3, (0, none, 15)), (4, (0, none, 0)), (2, (0, none, 0)), (0, (3, none, 0)), (1, (0, some 1, 0))], [(0, some 1, 0), (0, none, 15)], 0, 0), (0, 645, [(3, (0, none, 0)), (2, (3, none, 63)), (1, (3, none, 0)), (0, (4, none, 0))], [], 114, 22650)], k_h4, [((-2147483648), 2147483647), (15, 30), ((-2147483648), 2147483647), ((-2147483648), 2147483647), ((-2147483648), 2147483647), ((-2147483648), 2147483647), (6, 6), (14, 14)])
def k_T74 : xS := ([(150, 79, [(3, (0, none, 15)), (4, (0, none, 0)), (2, (0, none, 0)), (0, (3, none, 0)), (1, (0, some 1, 0))], [], 0, 0), (0, 645, [(3, (0, none, 0)), (2, (3, none, 63)), (1, (3, none, 0)), (0, (4, none, 0))], [], 114, 22650)], k_h4, [((-2147483648), 2147483647), (15, 15), ((-2147483648), 2147483647), ((-2147483648), 2147483647), ((-2147483648), 2147483647), ((-2147483648), 2147483647), (6, 6), (14, 14)])
theorem k_T74_ok : ∃ n, x_run k_P n k_T74 = true := ⟨765, by decide +kernel⟩
def k_T75 : xS := ([(150, 40, [(3, (0, none, 15)), (4, (0, none, 0)), (2, (0, none, 0)), (0, (3, none, 0)), (1, (0, some 1, 0))], [], 0, 0), (0, 645, [(3, (0, none, 0)), (2, (3, none, 63)), (1, (3, none, 0)), (0, (4, none, 0))], [], 114, 22650)], k_h4, [((-2147483648), 2147483647), (16, 30), ((-2147483648), 2147483647), ((-2147483648), 2147483647), ((-2147483648), 2147483647), ((-2147483648), 2147483647), (6, 6), (14, 14)])
def k_T76 : xS := ([(150, 37, [(3, (0, none, 16)), (4, (0, none, 0)), (2, (0, none, 0)), (0, (3, none, 0)), (1, (0, some 1, 0))], [(0, some 1, 0), (0, none, 16)], 0, 0), (0, 645, [(3, (0, none, 0)), (2, (3, none, 63)), (1, (3, none, 0)), (0, (4, none, 0))], [], 114, 22650)], k_h4, [((-2147483648), 2147483647), (16, 30), ((-2147483648), 2147483647), ((-2147483648), 2147483647), ((-2147483648), 2147483647), ((-2147483648), 2147483647), (6, 6), (14, 14)])
def k_T77 : xS := ([(150, 79, [(3, (0, none, 16)), (4, (0, none, 0)), (2, (0, none, 0)), (0, (3, none, 0)), (1, (0, some 1, 0))], [], 0, 0), (0, 645, [(3, (0, none, 0)), (2, (3, none, 63)), (1, (3, none, 0)), (0, (4, none, 0))], [], 114, 22650)], k_h4, [((-2147483648), 2147483647), (16, 16), ((-2147483648), 2147483647), ((-2147483648), 2147483647), ((-2147483648), 2147483647), ((-2147483648), 2147483647), (6, 6), (14, 14)])
theorem k_T77_ok : ∃ n, x_run k_P n k_T77 = true := ⟨779, by decide +kernel⟩
def k_T78 : xS := ([(150, 40, [(3, (0, none, 16)), (4, (0, none, 0)), (2, (0, none, 0)), (0, (3, none, 0)), (1, (0, some 1, 0))], [], 0, 0), (0, 645, [(3, (0, none, 0)), (2, (3, none, 63)), (1, (3, none, 0)), (0, (4, none, 0))], [], 114, 22650)], k_h4, [((-2147483648), 2147483647), (17, 30), ((-2147483648), 2147483647), ((-2147483648), 2147483647), ((-2147483648), 2147483647), ((-2147483648), 2147483647), (6, 6), (14, 14)])
def k_T79 : xS := ([(150, 37, [(3, (0, none, 17)), (4, (0, none, 0)), (2, (0, none, 0)), (0, (3, none, 0)), (1, (0, some 1, 0))], [(0, some 1, 0), (0, none, 17)], 0, 0), (0, 645, [(3, (0, none, 0)), (2, (3, none, 63)), (1, (3, none, 0)), (0, (4, none, 0))], [], 114, 22650)], k_h4, [((-2147483648), 2147483647), (17, 30), ((-2147483648), 2147483647), ((-2147483648), 2147483647), ((-2147483648), 2147483647), ((-2147483648), 2147483647), (6, 6), (14, 14)])
def k_T80 : xS := ([(150, 79, [(3, (0, none, 17)), (4, (0, none, 0)), (2, (0, none, 0)), (0, (3, none, 0)), (1, (0, some 1, 0))], [], 0, 0), (0, 645, [(3, (0, none, 0)), (2, (3, none, 63)), (1, (3, none, 0)), (0, (4, none, 0))], [], 114, 22650)], k_h4, [((-2147483648), 2147483647), (17, 17), ((-2147483648), 2147483647), ((-2147483648), 2147483647), ((-2147483648), 2147483647), ((-2147483648), 2147483647), (6, 6), (14, 14)])
theorem k_T80_ok : ∃ n, x_run k_P n k_T80 = true := ⟨793, by decide +kernel⟩
def k_T81 : xS := ([(150, 40, [(3, (0, none, 17)), (4, (0, none, 0)), (2, (0, none, 0)), (0, (3, none, 0)), (1, (0, some 1, 0))], [], 0, 0), (0, 645, [(3, (0, none, 0)), (2, (3, none, 63)), (1, (3, none, 0)), (0, (4, none, 0))], [], 114, 22650)], k_h4, [((-2147483648), 2147483647), (18, 30), ((-2147483648), 2147483647), ((-2147483648), 2147483647), ((-2147483648), 2147483647), ((-2147483648), 2147483647), (6, 6), (14, 14)])
def k_T82 : xS := ([(150, 37, [(3, (0, none, 18)), (4, (0, none, 0)), (2, (0, none, 0)), (0, (3, none, 0)), (1, (0, some 1, 0))], [(0, some 1, 0), (0, none, 18)], 0, 0), (0, 645, [(3, (0, none, 0)), (2, (3, none, 63)), (1, (3, none, 0)), (0, (4, none, 0))], [], 114, 22650)], k_h4, [((-2147483648), 2147483647), (18, 30), ((-2147483648), 2147483647), ((-2147483648), 2147483647), ((-2147483648), 2147483647), ((-2147483648), 2147483647), (6, 6), (14, 14)])
def k_T83 : xS := ([(150, 79, [(3, (0, none, 18)), (4, (0, none, 0)), (2, (0, none, 0)), (0, (3, none, 0)), (1, (0, some 1, 0))], [], 0, 0), (0, 645, [(3, (0, none, 0)), (2, (3, none, 63)), (1, (3, none, 0)), (0, (4, none, 0))], [], 114, 22650)], k_h4, [((-2147483648), 2147483647), (18, 18), ((-2147483648), 2147483647), ((-2147483648), 2147483647), ((-2147483648), 2147483647), ((-2147483648), 2147483647), (6, 6), (14, 14)])
theorem k_T83_ok : ∃ n, x_run k_P n k_T83 = true := ⟨807, by decide +kernel⟩
def k_T84 : xS := ([(150, 40, [(3, (0, none, 18)), (4, (0, none, 0)), (2, (0, none, 0)), (0, (3, none, 0)), (1, (0, some 1, 0))], [], 0, 0), (0, 645, [(3, (0, none, 0)), (2, (3, none, 63)), (1, (3, none, 0)), (0, (4, none, 0))], [], 114, 22650)], k_h4, [((-2147483648), 2147483647), (19, 30), ((-2147483648), 2147483647), ((-2147483648), 2147483647), ((-2147483648), 2147483647), ((-2147483648), 2147483647), (6, 6), (14, 14)])
def k_T85 : xS := ([(150, 37, [(3, (0, none, 19)), (4, (0, none, 0)), (2, (0, none, 0)), (0, (3, none, 0)), (1, (0, some 1, 0))], [(0, some 1, 0), (0, none, 19)], 0, 0), (0, 645, [(3, (0, none, 0)), (2, (3, none, 63)), (1, (3, none, 0)), (0, (4, none, 0))], [], 114, 22650)], k_h4, [((-2147483648), 2147483647), (19, 30), ((-2147483648), 2147483647), ((-2147483648), 2147483647), ((-2147483648), 2147483647), ((-2147483648), 2147483647), (6, 6), (14, 14)])
def k_T86 : xS := ([(150, 79, [(3, (0, none, 19)), (4, (0, none, 0)), (2, (0, none, 0)), (0, (3, none, 0)), (1, (0, some 1, 0))], [], 0, 0), (0, 645, [(3, (0, none, 0)), (2, (3, none, 63)), (1, (3, none, 0)), (0, (4, none, 0))], [], 114, 22650)], k_h4, [((-2147483648), 2147483647), (19, 19), ((-2147483648), 2147483647), ((-2147483648), 2147483647), ((-2147483648), 2147483647), ((-2147483648), 2147483647), (6, 6), (14, 14)])
theorem k_T86_ok : ∃ n, x_run k_P n k_T86 = true := ⟨821, by decide +kernel⟩
def k_T87 : xS := ([(150, 40, [(3, (0, none, 19)), (4, (0, none, 0)), (2, (0, none, 0)), (0, (3, none, 0)), (1, (0, some 1, 0))], [], 0, 0), (0, 645, [(3, (0, none, 0)), (2, (3, none, 63)), (1, (3, none, 0)), (0, (4, none, 0))], [], 114, 22650)], k_h4, [((-2147483648), 2147483647), (20, 30), ((-2147483648), 2147483647), ((-2147483648), 2147483647), ((-2147483648), 2147483647), ((-2147483648), 2147483647), (6, 6), (14, 14)])
def k_T88 : xS := ([(150, 37, [(3, (0, none, 20)), (4, (0, none, 0)), (2, (0, none, 0)), (0, (3, none, 0)), (1, (0, some 1, 0))], [(0, some 1, 0), (0, none, 20)], 0, 0), (0, 645, [(3, (0, none, 0)), (2, (3, none, 63)), (1, (3, none, 0)), (0, (4, none, 0))], [], 114, 22650)], k_h4, [((-2147483648), 2147483647), (20, 30), ((-2147483648), 2147483647), ((-2147483648), 2147483647), ((-2147483648), 2147483647), ((-2147483648), 2147483647), (6, 6), (14, 14)])
def k_T89 : xS := ([(150, 79, [(3, (0, none, 20)), (4, (0, none, 0)), (2, (0, none, 0)), (0, (3, none, 0)), (1, (0, some 1, 0))], [], 0, 0), (0, 645, [(3, (0, none, 0)), (2, (3, none, 63)), (1, (3, none, 0)), (0, (4, none, 0))], [], 114, 22650)], k_h4, [((-2147483648), 2147483647), (20, 20), ((-2147483648), 2147483647), ((-2147483648), 2147483647), ((-2147483648), 2147483647), ((-2147483648), 2147483647), (6, 6), (14, 14)])
theorem k_T89_ok : ∃ n, x_run k_P n k_T89 = true := ⟨835, by decide +kernel⟩
def k_T90 : xS := ([(150, 40, [(3, (0, none, 20)), (4, (0, none, 0)), (2, (0, none, 0)), (0, (3, none, 0)), (1, (0, some 1, 0))], [], 0, 0), (0, 645, [(3, (0, none, 0)), (2, (3, none, 63)), (1, (3, none, 0)), (0, (4, none, 0))], [], 114, 22650)], k_h4, [((-2147483648), 2147483647), (21, 30), ((-2147483648), 2147483647), ((-2147483648), 2147483647), ((-2147483648), 2147483647), ((-2147483648), 2147483647), (6, 6), (14, 14)])
def k_T91 : xS := ([(150, 37, [(3, (0, none, 21)), (4, (0, none, 0)), (2, (0, none, 0)), (0, (3, none, 0)), (1, (0, some 1, 0))], [(0, some 1, 0), (0, none, 21)], 0, 0), (0, 645, [(3, (0, none, 0)), (2, (3, none, 63)), (1, (3, none, 0)), (0, (4, none, 0))], [], 114, 22650)], k_h4, [((-2147483648), 2147483647), (21, 30), ((-2147483648), 2147483647), ((-2147483648), 2147483647), ((-2147483648), 2147483647), ((-2147483648), 2147483647), (6, 6), (14, 14)])
def k_T92 : xS := ([(150, 79, [(3, (0, none, 21)), (4, (0, none, 0)), (2, (0, none, 0)), (0, (3, none, 0)), (1, (0, some 1, 0))], [], 0, 0), (0, 645, [(3, (0, none, 0)), (2, (3, none, 63)), (1, (3, none, 0)), (0, (4, none, 0))], [], 114, 22650)], k_h4, [((-2147483648), 2147483647), (21, 21), ((-2147483648), 2147483647), ((-2147483648), 2147483647), ((-2147483648), 2147483647), ((-2147483648), 2147483647), (6, 6), (14, 14)])
theorem k_T92_ok : ∃ n, x_run k_P n k_T92 = true := ⟨849, by decide +kernel⟩
def k_T93 : xS := ([(150, 40, [(3, (0, none, 21)), (4, (0, none, 0)), (2, (0, none, 0)), (0, (3, none, 0)), (1, (0, some 1, 0))], [], 0, 0), (0, 645, [(3, (0, none, 0)), (2, (3, none, 63)), (1, (3, none, 0)), (0, (4, none, 0))], [], 114, 22650)], k_h4, [((-2147483648), 2147483647), (22, 30), ((-2147483648), 2147483647), ((-2147483648), 2147483647), ((-2147483648), 2147483647), ((-2147483648), 2147483647), (6, 6), (14, 14)])
def k_T94 : xS := ([(150, 37, [(3, (0, none, 22)), (4, (0, none, 0)), (2, (0, none, 0)), (0, (3, none, 0)), (1, (0, some 1, 0))], [(0, some 1, 0), (0, none, 22)], 0, 0), (0, 645, [(3, (0, none, 0)), (2, (3, none, 63)), (1, (3, none, 0)), (0, (4, none, 0))], [], 114, 22650)], k_h4, [((-2147483648), 2147483647), (22, 30), ((-2147483648), 2147483647), ((-2147483648), 2147483647), ((-2147483648), 2147483647), ((-2147483648), 2147483647), (6, 6), (14, 14)])
def k_T95 : xS := ([(150, 79, [(3, (0, none, 22)), (4, (0, none, 0)), (2, (0, none, 0)), (0, (3, none, 0)), (1, (0, some 1, 0))], [], 0, 0), (0, 645, [(3, (0, none, 0)), (2, (3, none, 63)), (1, (3, none, 0)), (0, (4, none, 0))], [], 114, 22650)], k_h4, [((-2147483648), 2147483647), (22, 22), ((-2147483648), 2147483647), ((-2147483648), 2147483647), ((-2147483648), 2147483647), ((-2147483648), 2147483647), (6, 6), (14, 14)])
theorem k_T95_ok : ∃ n, x_run k_P n k_T95 = true := ⟨863, by decide +kernel⟩
def k_T96 : xS := ([(150, 40, [(3, (0, none, 22)), (4, (0, none, 0)), (2, (0, none, 0)), (0, (3, none, 0)), (1, (0, some 1, 0))], [], 0, 0), (0, 645, [(3, (0, none, 0)), (2, (3, none, 63)), (1, (3, none, 0)), (0, (4, none, 0))], [], 114, 22650)], k_h4, [((-2147483648), 2147483647), (23, 30), ((-2147483648), 2147483647), ((-2147483648), 2147483647), ((-2147483648), 2147483647), ((-2147483648), 2147483647), (6, 6), (14, 14)])
def k_T97 : xS := ([(150, 37, [(3, (0, none, 23)), (4, (0, none, 0)), (2, (0, none, 0)), (0, (3, none, 0)), (1, (0, some 1, 0))], [(0, some 1, 0), (0, none, 23)], 0, 0), (0, 645, [(3, (0, none, 0)), (2, (3, none, 63)), (1, (3, none, 0)), (0, (4, none, 0))], [], 114, 22650)], k_h4, [((-2147483648), 2147483647), (23, 30), ((-2147483648), 2147483647), ((-2147483648), 2147483647), ((-2147483648), 2147483647), ((-2147483648), 2147483647), (6, 6), (14, 14)])
def k_T98 : xS := ([(150, 79, [(3, (0, none, 23)), (4, (0, none, 0)), (2, (0, none, 0)), (0, (3, none, 0)), (1, (0, some 1, 0))], [], 0, 0), (0, 645, [(3, (0, none, 0)), (2, (3, none, 63)), (1, (3, none, 0)), (0, (4, none, 0))], [], 114, 22650)], k_h4, [((-2147483648), 2147483647), (23, 23), ((-2147483648), 2147483647), ((-2147483648), 2147483647), ((-2147483648), 2147483647), ((-2147483648), 2147483647), (6, 6), (14, 14)])
theorem k_T98_ok : ∃ n, x_run k_P n k_T98 = true := ⟨877, by decide +kernel⟩
def k_T99 : xS := ([(150, 40, [(3, (0, none, 23)), (4, (0, none, 0)), (2, (0, none, 0)), (0, (3, none, 0)), (1, (0, some 1, 0))], [], 0, 0), (0, 645, [(3, (0, none, 0)), (2, (3, none, 63)), (1, (3, none, 0)), (0, (4, none, 0))], [], 114, 22650)], k_h4, [((-2147483648), 2147483647), (24, 30), ((-2147483648), 2147483647), ((-2147483648), 2147483647), ((-2147483648), 2147483647), ((-2147483648), 2147483647), (6, 6), (14, 14)])
def k_T100 : xS := ([(150, 37, [(3, (0, none, 24)), (4, (0, none, 0)), (2, (0, none, 0)), (0, (3, none, 0)), (1, (0, some 1, 0))], [(0, some 1, 0), (0, none, 24)], 0, 0), (0, 645, [(3, (0, none, 0)), (2, (3, none, 63)), (1, (3, none, 0)), (0, (4, none, 0))], [], 114, 22650)], k_h4, [((-2147483648), 2147483647), (24, 30), ((-2147483648), 2147483647), ((-2147483648), 2147483647), ((-2147483648), 2147483647), ((-2147483648), 2147483647), (6, 6), (14, 14)])
def k_T101 : xS := ([(150, 79, [(3, (0, none, 24)), (4, (0, none, 0)), (2, (0, none, 0)), (0, (3, none, 0)), (1, (0, some 1, 0))], [], 0, 0), (0, 645, [(3, (0, none, 0)), (2, (3, none, 63)), (1, (3, none, 0)), (0, (4, none, 0))], [], 114, 22650)], k_h4, [((-2147483648), 2147483647), (24, 24), ((-2147483648), 2147483647), ((-2147483648), 2147483647), ((-2147483648), 2147483647), ((-2147483648), 2147483647), (6, 6), (14, 14)])
theorem k_T101_ok : ∃ n, x_run k_P n k_T101 = true := ⟨891, by decide +kernel⟩
def k_T102 : xS := ([(150, 40, [(3, (0, none, 24)), (4, (0, none, 0)), (2, (0, none, 0)), (0, (3, none, 0)), (1, (0, some 1, 0))], [], 0, 0), (0, 645, [(3, (0, none, 0)), (2, (3, none, 63)), (1, (3, none, 0)), (0, (4, none, 0))], [], 114, 22650)], k_h4, [((-2147483648), 2147483647), (25, 30), ((-2147483648), 2147483647), ((-2147483648), 2147483647), ((-2147483648), 2147483647), ((-2147483648), 2147483647), (6, 6), (14, 14)])
def k_T103 : xS := ([(150, 37, [(3, (0, none, 25)), (4, (0, none, 0)), (2, (0, none, 0)), (0, (3, none, 0)), (1, (0, some 1, 0))], [(0, some 1, 0), (0, none, 25)], 0, 0), (0, 645, [(3, (0, none, 0)), (2, (3, none, 63)), (1, (3, none, 0)), (0, (4, none, 0))], [], 114, 22650)], k_h4, [((-2147483648), 2147483647), (25, 30), ((-2147483648), 2147483647), ((-2147483648), 2147483647), ((-2147483648), 2147483647), ((-2147483648), 2147483647), (6, 6), (14, 14)])
def k_T104 : xS := ([(150, 79, [(3, (0, none, 25)), (4, (0, none, 0)), (2, (0, none, 0)), (0, (3, none, 0)), (1, (0, some 1, 0))], [], 0, 0), (0, 645, [(3, (0, none, 0)), (2, (3, none, 63)), (1, (3, none, 0)), (0, (4, none, 0))], [], 114, 22650)], k_h4, [((-2147483648), 2147483647), (25, 25), ((-2147483648), 2147483647), ((-2147483648), 2147483647), ((-2147483648), 2147483647), ((-2147483648), 2147483647), (6, 6), (14, 14)])
theorem k_T104_ok : ∃ n, x_run k_P n k_T104 = true := ⟨905, by decide +kernel⟩
def k_T105 : xS := ([(150, 40, [(3, (0, none, 25)), (4, (0, none, 0)), (2, (0, none, 0)), (0, (3, none, 0)), (1, (0, some 1, 0))], [], 0, 0), (0, 645, [(3, (0, none, 0)), (2, (3, none, 63)), (1, (3, none, 0)), (0, (4, none, 0))], [], 114, 22650)], k_h4, [((-2147483648), 2147483647), (26, 30), ((-2147483648), 2147483647), ((-2147483648), 2147483647), ((-2147483648), 2147483647), ((-2147483648), 2147483647), (6, 6), (14, 14)])
def k_T106 : xS := ([(150, 37, [(3, (0, none, 26)), (4, (0, none, 0)), (2, (0, none, 0)), (0, (3, none, 0)), (1, (0, some 1, 0))], [(0, some 1, 0), (0, none, 26)], 0, 0), (0, 645, [(3, (0, none, 0)), (2, (3, none, 63)), (1, (3, none, 0)), (0, (4, none, 0))], [], 114, 22650)], k_h4, [((-2147483648), 2147483647), (26, 30), ((-2147483648), 2147483647), ((-2147483648), 2147483647), ((-2147483648), 2147483647), ((-2147483648), 2147483647), (6, 6), (14, 14)])
def k_T107 : xS := ([(150, 79, [(3, (0, none, 26)), (4, (0, none, 0)), (2, (0, none, 0)), (0, (3, none, 0)), (1, (0, some 1, 0))], [], 0, 0), (0, 645, [(3, (0, none, 0)), (2, (3, none, 63)), (1, (3, none, 0)), (0, (4, none, 0))], [], 114, 22650)], k_h4, [((-2147483648), 2147483647), (26, 26), ((-2147483648), 2147483647), ((-2147483648), 2147483647), ((-2147483648), 2147483647), ((-2147483648), 2147483647), (6, 6), (14, 14)])
def k_T108 : xS := ([(224, 93, [(5, (0, none, 7)), (4, (0, none, 23)), (3, (0, none, 7)), (0, (3, none, 63)), (1, (0, none, 2)), (2, (0, none, 0))], [(0, none, 0), (0, none, 23), (3, none, 96)], 0, 0), (227, 45, [(0, (3, none, 63))], [], 0, 0), (266, 20, [(0, (3, none, 63)), (1, (0, some 1, 0))], [], 0, 0), (0, 654, [(3, (0, none, 0)), (2, (3, none, 63)), (1, (3, none, 0)), (0, (4, none, 0))], [(0, none, 0)], 114, 22650)], k_h4, [((-2147483648), 2147483647), (26, 26), ((-2147483648), 2147483647), ((-2147483648), 2147483647), ((-2147483648), 2147483647), ((-2147483648), 2147483647), (6, 6), (14, 14)])
theorem k_T108_ok : ∃ n, x_run k_P n k_T108 = true := ⟨419, by decide +kernel⟩
theorem k_T107_ok : ∃ n, x_run k_P n k_T107 = true := x_adv_ok (n := 500) (T := k_T108) (by decide +kernel) k_T108_ok
def k_T109 : xS := ([(150, 40, [(3, (0, none, 26)), (4, (0, none, 0)), (2, (0, none, 0)), (0, (3, none, 0)), (1, (0, some 1, 0))], [], 0, 0), (0, 645, [(3, (0, none, 0)), (2, (3, none, 63)), (1, (3, none, 0)), (0, (4, none, 0))], [], 114, 22650)], k_h4, [((-2147483648), 2147483647), (27, 30), ((-2147483648), 2147483647), ((-2147483648), 2147483647), ((-2147483648), 2147483647), ((-2147483648), 2147483647), (6, 6), (14, 14)])
def k_T110 : xS := ([(150, 37, [(3, (0, none, 27)), (4, (0, none, 0)), (2, (0, none, 0)), (0, (3, none, 0)), (1, (0, some 1, 0))], [(0, some 1, 0), (0, none, 27)], 0, 0), (0, 645, [(3, (0, none, 0)), (2, (3, none, 63)), (1, (3, none, 0)), (0, (4, none, 0))], [], 114, 22650)], k_h4, [((-2147483648), 2147483647), (27, 30), ((-2147483648), 2147483647), ((-2147483648), 2147483647), ((-2147483648), 2147483647), ((-2147483648), 2147483647), (6, 6), (14, 14)])
def k_T111 : xS := ([(150, 79, [(3, (0, none, 27)), (4, (0, none, 0)), (2, (0, none, 0)), (0, (3, none, 0)), (1, (0, some 1, 0))], [], 0, 0), (0, 645, [(3, (0, none, 0)), (2, (3, none, 63)), (1, (3, none, 0)), (0, (4, none, 0))], [], 114, 22650)], k_h4, [((-2147483648), 2147483647), (27, 27), ((-2147483648), 2147483647), ((-2147483648), 2147483647), ((-2147483648), 2147483647), ((-2147483648), 2147483647), (6, 6), (14, 14)])
def k_T112 : xS := ([(224, 93, [(5, (0, none, 7)), (4, (0, none, 23)), (3, (0, none, 7)), (0, (3, none, 63)), (1, (0, none, 2)), (2, (0, none, 0))], [(0, none, 0), (0, none, 23), (3, none, 96)], 0, 0), (227, 45, [(0, (3, none, 63))], [], 0, 0), (266, 20, [(0, (3, none, 63)), (1, (0, some 1, 0))], [], 0, 0), (0, 654, [(3, (0, none, 0)), (2, (3, none, 63)), (1, (3, none, 0)), (0, (4, none, 0))], [(0, none, 0)], 114, 22650)], k_h4, [((-2147483648), 2147483647), (27, 27), ((-2147483648), 2147483647), ((-2147483648), 2147483647), ((-2147483648), 2147483647), ((-2147483648), 2147483647), (6, 6), (14, 14)])
theorem k_T112_ok : ∃ n, x_run k_P n k_T112 = true := ⟨433, by decide +kernel⟩
theorem k_T111_ok : ∃ n, x_run k_P n k_T111 = true := x_adv_ok (n := 500) (T := k_T112) (by decide +kernel) k_T112_ok
def k_T113 : xS := ([(150, 40, [(3, (0, none, 27)), (4, (0, none, 0)), (2, (0, none, 0)), (0, (3, none, 0)), (1, (0, some 1, 0))], [], 0, 0), (0, 645, [(3, (0, none, 0)), (2, (3, none, 63)), (1, (3, none, 0)), (0, (4, none, 0))], [], 114, 22650)], k_h4, [((-2147483648), 2147483647), (28, 30), ((-2147483648), 2147483647), ((-2147483648), 2147483647), ((-2147483648), 2147483647), ((-2147483648), 2147483647), (6, 6), (14, 14)])
def k_T114 : xS := ([(150, 37, [(3, (0, none, 28)), (4, (0, none, 0)), (2, (0, none, 0)), (0, (3, none, 0)), (1, (0, some 1, 0))], [(0, some 1, 0), (0, none, 28)], 0, 0), (0, 645, [(3, (0, none, 0)), (2, (3, none, 63)), (1, (3, none, 0)), (0, (4, none, 0))], [], 114, 22650)], k_h4, [((-2147483648), 2147483647), (28, 30), ((-2147483648), 2147483647), ((-2147483648), 2147483647), ((-2147483648), 2147483647), ((-2147483648), 2147483647), (6, 6), (14, 14)])
def k_T115 : xS := ([(150, 79, [(3, (0, none, 28)), (4, (0, none, 0)), (2, (0, none, 0)), (0, (3, none, 0)), (1, (0, some 1, 0))], [], 0, 0), (0, 645, [(3, (0, none, 0)), (2, (3, none, 63)), (1, (3, none, 0)), (0, (4, none, 0))], [], 114, 22650)], k_h4, [((-2147483648), 2147483647), (28, 28), ((-2147483648), 2147483647), ((-2147483648), 2147483647), ((-2147483648), 2147483647), ((-2147483648), 2147483647), (6, 6), (14, 14)])
def k_T116 : xS := ([(224, 93, [(5, (0, none, 7)), (4, (0, none, 23)), (3, (0, none, 7)), (0, (3, none, 63)), (1, (0, none, 2)), (2, (0, none, 0))], [(0, none, 0), (0, none, 23), (3, none, 96)], 0, 0), (227, 45, [(0, (3, none, 63))], [], 0, 0), (266, 20, [(0, (3, none, 63)), (1, (0, some 1, 0))], [], 0, 0), (0, 654, [(3, (0, none, 0)), (2, (3, none, 63)), (1, (3, none, 0)), (0, (4, none, 0))], [(0, none, 0)], 114, 22650)], k_h4, [((-2147483648), 2147483647), (28, 28), ((-2147483648), 2147483647), ((-2147483648), 2147483647), ((-2147483648), 2147483647), ((-2147483648), 2147483647), (6, 6), (14, 14)])
theorem k_T116_ok : ∃ n, x_run k_P n k_T116 = true := ⟨447, by decide +kernel⟩
theorem k_T115_ok : ∃ n, x_run k_P n k_T115 = true := x_adv_ok (n := 500) (T := k_T116) (by decide +kernel) k_T116_ok
def k_T117 : xS := ([(150, 40, [(3, (0, none, 28)), (4, (0, none, 0)), (2, (0, none, 0)), (0, (3, none, 0)), (1, (0, some 1, 0))], [], 0, 0), (0, 645, [(3, (0, none, 0)), (2, (3, none, 63)), (1, (3, none, 0)), (0, (4, none, 0))], [], 114, 22650)], k_h4, [((-2147483648), 2147483647), (29, 30), ((-2147483648), 2147483647), ((-2147483648), 2147483647), ((-2147483648), 2147483647), ((-2147483648), 2147483647), (6, 6), (14, 14)])
def k_T118 : xS := ([(150, 37, [(3, (0, none, 29)), (4, (0, none, 0)), (2, (0, none, 0)), (0, (3, none, 0)), (1, (0, some 1, 0))], [(0, some 1, 0), (0, none, 29)], 0, 0), (0, 645, [(3, (0, none, 0)), (2, (3, none, 63)), (1, (3, none, 0)), (0, (4, none, 0))], [], 114, 22650)], k_h4, [((-2147483648), 2147483647), (29, 30), ((-2147483648), 2147483647), ((-2147483648), 2147483647), ((-2147483648), 2147483647), ((-2147483648), 2147483647), (6, 6), (14, 14)])
def k_T119 : xS := ([(150, 79, [(3, (0, none, 29)), (4, (0, none, 0)), (2, (0, none, 0)), (0, (3, none, 0)), (1, (0, some 1, 0))], [], 0, 0), (0, 645, [(3, (0, none, 0)), (2, (3, none, 63)), (1, (3, none, 0)), (0, (4, none, 0))], [], 114, 22650)], k_h4, [((-2147483648), 2147483647), (29, 29), ((-2147483648), 2147483647), ((-2147483648), 2147483647), ((-2147483648), 2147483647), ((-2147483648), 2147483647), (6, 6), (14, 14)])
def k_T120 : xS := ([(224, 93, [(5, (0, none, 7)), (4, (0, none, 23)), (3, (0, none, 7)), (0, (3, none, 63)), (1, (0, none, 2)), (2, (0, none, 0))], [(0, none, 0), (0, none, 23), (3, none, 96)], 0, 0), (227, 45, [(0, (3, none, 63))], [], 0, 0), (266, 20, [(0, (3, none, 63)), (1, (0, some 1, 0))], [], 0, 0), (0, 654, [(3, (0, none, 0)), (2, (3, none, 63)), (1, (3, none, 0)), (0, (4, none, 0))], [(0, none, 0)], 114, 22650)], k_h4, [((-2147483648), 2147483647), (29, 29), ((-2147483648), 2147483647), ((-2147483648), 2147483647), ((-2147483648), 2147483647), ((-2147483648), 2147483647), (6, 6), (14, 14)])
theorem k_T120_ok : ∃ n, x_run k_P n k_T120 = true := ⟨461, by decide +kernel⟩
theorem k_T119_ok : ∃ n, x_run k_P n k_T119 = true := x_adv_ok (n := 500) (T := k_T120) (by decide +kernel) k_T120_ok
def k_T121 : xS := ([(150, 40, [(3, (0, none, 29)), (4, (0, none, 0)), (2, (0, none, 0)), (0, (3, none, 0)), (1, (0, some 1, 0))], [], 0, 0), (0, 645, [(3, (0, none, 0)), (2, (3, none, 63)), (1, (3, none, 0)), (0, (4, none, 0))], [], 114, 22650)], k_h4, [((-2147483648), 2147483647), (30, 30), ((-2147483648), 2147483647), ((-2147483648), 2147483647), ((-2147483648), 2147483647), ((-2147483648), 2147483647), (6, 6), (14, 14)])
def k_T122 : xS := ([(224, 70, [(5, (0, none, 7)), (4, (0, none, 23)), (3, (0, none, 7)), (0, (3, none, 63)), (1, (0, none, 2)), (2, (0, none, 0))], [(3, none, 95)], 0, 0), (227, 45, [(0, (3, none, 63))], [], 0, 0), (266, 20, [(0, (3, none, 63)), (1, (0, some 1, 0))], [], 0, 0), (0, 654, [(3, (0, none, 0)), (2, (3, none, 63)), (1, (3, none, 0)), (0, (4, none, 0))], [(0, none, 0)], 114, 22650)], k_h4, [((-2147483648), 2147483647), (30, 30), ((-2147483648), 2147483647), ((-2147483648), 2147483647), ((-2147483648), 2147483647), ((-2147483648), 2147483647), (6, 6), (14, 14)])
theorem k_T122_ok : ∃ n, x_run k_P n k_T122 = true := ⟨488, by decide +kernel⟩
theorem k_T121_ok : ∃ n, x_run k_P n k_T121 = true := x_adv_ok (n := 500) (T := k_T122) (by decide +kernel) k_T122_ok
theorem k_T118_ok : ∃ n, x_run k_P n k_T118 = true := x_fan_ok (l := [k_T119, k_T121]) (by decide +kernel) (List.forall_mem_cons.mpr ⟨k_T119_ok, List.forall_mem_cons.mpr ⟨k_T121_ok, fun _ h => absurd h List.not_mem_nil⟩⟩)
theorem k_T117_ok : ∃ n, x_run k_P n k_T117 = true := x_adv_ok (n := 12) (T := k_T118) (by decide +kernel) k_T118_ok
theorem k_T114_ok : ∃ n, x_run k_P n k_T114 = true := x_fan_ok (l := [k_T115, k_T117]) (by decide +kernel) (List.forall_mem_cons.mpr ⟨k_T115_ok, List.forall_mem_cons.mpr ⟨k_T117_ok, fun _ h => absurd h List.not_mem_nil⟩⟩)
theorem k_T113_ok : ∃ n, x_run k_P n k_T113 = true := x_adv_ok (n := 12) (T := k_T114) (by decide +kernel) k_T114_ok
theorem k_T110_ok : ∃ n, x_run k_P n k_T110 = true := x_fan_ok (l := [k_T111, k_T113]) (by decide +kernel) (List.forall_mem_cons.mpr ⟨k_T111_ok, List.forall_mem_cons.mpr ⟨k_T113_ok, fun _ h => absurd h List.not_mem_nil⟩⟩)
theorem k_T109_ok : ∃ n, x_run k_P n k_T109 = true := x_adv_ok (n := 12) (T := k_T110) (by decide +kernel) k_T110_ok
theorem k_T106_ok : ∃ n, x_run k_P n k_T106 = true := x_fan_ok (l := [k_T107, k_T109]) (by decide +kernel) (List.forall_mem_cons.mpr ⟨k_T107_ok, List.forall_mem_cons.mpr ⟨k_T109_ok, fun _ h => absurd h List.not_mem_nil⟩⟩)
theorem k_T105_ok : ∃ n, x_run k_P n k_T105 = true := x_adv_ok (n := 12) (T := k_T106) (by decide +kernel) k_T106_ok
theorem k_T103_ok : ∃ n, x_run k_P n k_T103 = true := x_fan_ok (l := [k_T104, k_T105]) (by decide +kernel) (List.forall_mem_cons.mpr ⟨k_T104_ok, List.forall_mem_cons.mpr ⟨k_T105_ok, fun _ h => absurd h List.not_mem_nil⟩⟩)
theorem k_T102_ok : ∃ n, x_run k_P n k_T102 = true := x_adv_ok (n := 12) (T := k_T103) (by decide +kernel) k_T103_ok
theorem k_T100_ok : ∃ n, x_run k_P n k_T100 = true := x_fan_ok (l := [k_T101, k_T102]) (by decide +kernel) (List.forall_mem_cons.mpr ⟨k_T101_ok, List.forall_mem_cons.mpr ⟨k_T102_ok, fun _ h => absurd h List.not_mem_nil⟩⟩)
theorem k_T99_ok : ∃ n, x_run k_P n k_T99 = true := x_adv_ok (n := 12) (T := k_T100) (by decide +kernel) k_T100_ok
theorem k_T97_ok : ∃ n, x_run k_P n k_T97 = true := x_fan_ok (l := [k_T98, k_T99]) (by decide +kernel) (List.forall_mem_cons.mpr ⟨k_T98_ok, List.forall_mem_cons.mpr ⟨k_T99_ok, fun _ h => absurd h List.not_mem_nil⟩⟩)
theorem k_T96_ok : ∃ n, x_run k_P n k_T96 = true := x_adv_ok (n := 12) (T := k_T97) (by decide +kernel) k_T97_ok
theorem k_T94_ok : ∃ n, x_run k_P n k_T94 = true := x_fan_ok (l := [k_T95, k_T96]) (by decide +kernel) (List.forall_mem_cons.mpr ⟨k_T95_ok, List.forall_mem_cons.mpr ⟨k_T96_ok, fun _ h => absurd h List.not_mem_nil⟩⟩)
theorem k_T93_ok : ∃ n, x_run k_P n k_T93 = true := x_adv_ok (n := 12) (T := k_T94) (by decide +kernel) k_T94_ok
theorem k_T91_ok : ∃ n, x_run k_P n k_T91 = true := x_fan_ok (l := [k_T92, k_T93]) (by decide +kernel) (List.forall_mem_cons.mpr ⟨k_T92_ok, List.forall_mem_cons.mpr ⟨k_T93_ok, fun _ h => absurd h List.not_mem_nil⟩⟩)
theorem k_T90_ok : ∃ n, x_run k_P n k_T90 = true := x_adv_ok (n := 12) (T := k_T91) (by decide +kernel) k_T91_ok
theorem k_T88_ok : ∃ n, x_run k_P n k_T88 = true := x_fan_ok (l := [k_T89, k_T90]) (by decide +kernel) (List.forall_mem_cons.mpr ⟨k_T89_ok, List.forall_mem_cons.mpr ⟨k_T90_ok, fun _ h => absurd h List.not_mem_nil⟩⟩)
theorem k_T87_ok : ∃ n, x_run k_P n k_T87 = true := x_adv_ok (n := 12) (T := k_T88) (by decide +kernel) k_T88_ok
theorem k_T85_ok : ∃ n, x_run k_P n k_T85 = true := x_fan_ok (l := [k_T86, k_T87]) (by decide +kernel) (List.forall_mem_cons.mpr ⟨k_T86_ok, List.forall_mem_cons.mpr ⟨k_T87_ok, fun _ h => absurd h List.not_mem_nil⟩⟩)
theorem k_T84_ok : ∃ n, x_run k_P n k_T84 = true := x_adv_ok (n := 12) (T := k_T85) (by decide +kernel) k_T85_ok
theorem k_T82_ok : ∃ n, x_run k_P n k_T82 = true := x_fan_ok (l := [k_T83, k_T84]) (by decide +kernel) (List.forall_mem_cons.mpr ⟨k_T83_ok, List.forall_mem_cons.mpr ⟨k_T84_ok, fun _ h => absurd h List.not_mem_nil⟩⟩)
theorem k_T81_ok : ∃ n, x_run k_P n k_T81 = true := x_adv_ok (n := 12) (T := k_T82) (by decide +kernel) k_T82_ok
theorem k_T79_ok : ∃ n, x_run k_P n k_T79 = true := x_fan_ok (l := [k_T80, k_T81]) (by decide +kernel) (List.forall_mem_cons.mpr ⟨k_T80_ok, List.forall_mem_cons.mpr ⟨k_T81_ok, fun _ h => absurd h List.not_mem_nil⟩⟩)
theorem k_T78_ok : ∃ n, x_run k_P n k_T78 = true := x_adv_ok (n := 12) (T := k_T79) (by decide +kernel) k_T79_ok
theorem k_T76_ok : ∃ n, x_run k_P n k_T76 = true := x_fan_ok (l := [k_T77, k_T78]) (by decide +kernel) (List.forall_mem_cons.mpr ⟨k_T77_ok, List.forall_mem_cons.mpr ⟨k_T78_ok, fun _ h => absurd h List.not_mem_nil⟩⟩)
theorem k_T75_ok : ∃ n, x_run k_P n k_T75 = true := x_adv_ok (n := 12) (T := k_T76) (by decide +kernel) k_T76_ok
theorem k_T73_ok : ∃ n, x_run k_P n k_T73 = true := x_fan_ok (l := [k_T74, k_T75]) (by decide +kernel) (List.forall_mem_cons.mpr ⟨k_T74_ok, List.forall_mem_cons.mpr ⟨k_T75_ok, fun _ h => absurd h List.not_mem_nil⟩⟩)
theorem k_T72_ok : ∃ n, x_run k_P n k_T72 = true := x_adv_ok (n := 12) (T := k_T73) (by decide +kernel) k_T73_ok
theorem k_T70_ok : ∃ n, x_run k_P n k_T70 = true := x_fan_ok (l := [k_T71, k_T72]) (by decide +kernel) (List.forall_mem_cons.mpr ⟨k_T71_ok, List.forall_mem_cons.mpr ⟨k_T72_ok, fun _ h => absurd h List.not_mem_nil⟩⟩)
theorem k_T69_ok : ∃ n, x_run k_P n k_T69 = true := x_adv_ok (n := 12) (T := k_T70) (by decide +kernel) k_T70_ok
theorem k_T67_ok : ∃ n, x_run k_P n k_T67 = true := x_fan_ok (l := [k_T68, k_T69]) (by decide +kernel) (List.forall_mem_cons.mpr ⟨k_T68_ok, List.forall_mem_cons.mpr ⟨k_T69_ok, fun _ h => absurd h List.not_mem_nil⟩⟩)
theorem k_T66_ok : ∃ n, x_run k_P n k_T66 = true := x_adv_ok (n := 12) (T := k_T67) (by decide +kernel) k_T67_ok
theorem k_T64_ok : ∃ n, x_run k_P n k_T64 = true := x_fan_ok (l := [k_T65, k_T66]) (by decide +kernel) (List.forall_mem_cons.mpr ⟨k_T65_ok, List.forall_mem_cons.mpr ⟨k_T66_ok, fun _ h => absurd h List.not_mem_nil⟩⟩)
theorem k_T63_ok : ∃ n, x_run k_P n k_T63 = true := x_adv_ok (n := 12) (T := k_T64) (by decide +kernel) k_T64_ok
theorem k_T61_ok : ∃ n, x_run k_P n k_T61 = true := x_fan_ok (l := [k_T62, k_T63]) (by decide +kernel) (List.forall_mem_cons.mpr ⟨k_T62_ok, List.forall_mem_cons.mpr ⟨k_T63_ok, fun _ h => absurd h List.not_mem_nil⟩⟩)
theorem k_T60_ok : ∃ n, x_run k_P n k_T60 = true := x_adv_ok (n := 12) (T := k_T61) (by decide +kernel) k_T61_ok
theorem k_T58_ok : ∃ n, x_run k_P n k_T58 = true := x_fan_ok (l := [k_T59, k_T60]) (by decide +kernel) (List.forall_mem_cons.mpr ⟨k_T59_ok, List.forall_mem_cons.mpr ⟨k_T60_ok, fun _ h => absurd h List.not_mem_nil⟩⟩)
theorem k_T57_ok : ∃ n, x_run k_P n k_T57 = true := x_adv_ok (n := 12) (T := k_T58) (by decide +kernel) k_T58_ok
theorem k_T55_ok : ∃ n, x_run k_P n k_T55 = true := x_fan_ok (l := [k_T56, k_T57]) (by decide +kernel) (List.forall_mem_cons.mpr ⟨k_T56_ok, List.forall_mem_cons.mpr ⟨k_T57_ok, fun _ h => absurd h List.not_mem_nil⟩⟩)
theorem k_T54_ok : ∃ n, x_run k_P n k_T54 = true := x_adv_ok (n := 12) (T := k_T55) (by decide +kernel) k_T55_ok
theorem k_T52_ok : ∃ n, x_run k_P n k_T52 = true := x_fan_ok (l := [k_T53, k_T54]) (by decide +kernel) (List.forall_mem_cons.mpr ⟨k_T53_ok, List.forall_mem_cons.mpr ⟨k_T54_ok, fun _ h => absurd h List.not_mem_nil⟩⟩)
theorem k_T51_ok : ∃ n, x_run k_P n k_T51 = true := x_adv_ok (n := 12) (T := k_T52) (by decide +kernel) k_T52_ok
theorem k_T49_ok : ∃ n, x_run k_P n k_T49 = true := x_fan_ok (l := [k_T50, k_T51]) (by decide +kernel) (List.forall_mem_cons.mpr ⟨k_T50_ok, List.forall_mem_cons.mpr ⟨k_T51_ok, fun _ h => absurd h List.not_mem_nil⟩⟩)
theorem k_T48_ok : ∃ n, x_run k_P n k_T48 = true := x_adv_ok (n := 12) (T := k_T49) (by decide +kernel) k_T49_ok
theorem k_T46_ok : ∃ n, x_run k_P n k_T46 = true := x_fan_ok (l := [k_T47, k_T48]) (by decide +kernel) (List.forall_mem_cons.mpr ⟨k_T47_ok, List.forall_mem_cons.mpr ⟨k_T48_ok, fun _ h => absurd h List.not_mem_nil⟩⟩)
theorem k_T45_ok : ∃ n, x_run k_P n k_T45 = true := x_adv_ok (n := 12) (T := k_T46) (by decide +kernel) k_T46_ok
theorem k_T43_ok : ∃ n, x_run k_P n k_T43 = true := x_fan_ok (l := [k_T44, k_T45]) (by decide +kernel) (List.forall_mem_cons.mpr ⟨k_T44_ok, List.forall_mem_cons.mpr ⟨k_T45_ok, fun _ h => absurd h List.not_mem_nil⟩⟩)
theorem k_T42_ok : ∃ n, x_run k_P n k_T42 = true := x_adv_ok (n := 12) (T := k_T43) (by decide +kernel) k_T43_ok
theorem k_T40_ok : ∃ n, x_run k_P n k_T40 = true := x_fan_ok (l := [k_T41, k_T42]) (by decide +kernel) (List.forall_mem_cons.mpr ⟨k_T41_ok, List.forall_mem_cons.mpr ⟨k_T42_ok, fun _ h => absurd h List.not_mem_nil⟩⟩)
theorem k_T39_ok : ∃ n, x_run k_P n k_T39 = true := x_adv_ok (n := 12) (T := k_T40) (by decide +kernel) k_T40_ok
theorem k_T37_ok : ∃ n, x_run k_P n k_T37 = true := x_fan_ok (l := [k_T38, k_T39]) (by decide +kernel) (List.forall_mem_cons.mpr ⟨k_T38_ok, List.forall_mem_cons.mpr ⟨k_T39_ok, fun _ h => absurd h List.not_mem_nil⟩⟩)
theorem k_T36_ok : ∃ n, x_run k_P n k_T36 = true := x_adv_ok (n := 12) (T := k_T37) (by decide +kernel) k_T37_ok
theorem k_T34_ok : ∃ n, x_run k_P n k_T34 = true := x_fan_ok (l := [k_T35, k_T36]) (by decide +kernel) (List.forall_mem_cons.mpr ⟨k_T35_ok, List.forall_mem_cons.mpr ⟨k_T36_ok, fun _ h => absurd h List.not_mem_nil⟩⟩)
theorem k_T33_ok : ∃ n, x_run k_P n k_T33 = true := x_adv_ok (n := 12) (T := k_T34) (by decide +kernel) k_T34_ok
theorem k_T31_ok : ∃ n, x_run k_P n k_T31 = true := x_fan_ok (l := [k_T32, k_T33]) (by decide +kernel) (List.forall_mem_cons.mpr ⟨k_T32_ok, List.forall_mem_cons.mpr ⟨k_T33_ok, fun _ h => absurd h List.not_mem_nil⟩⟩)
theorem k_T30_ok : ∃ n, x_run k_P n k_T30 = true := x_adv_ok (n := 52) (T := k_T31) (by decide +kernel) k_T31_ok
def k_T123 : xS := ([(150, 11, [(0, (3, none, 0)), (1, (0, some 1, 0))], [], 0, 0), (0, 645, [(3, (0, none, 0)), (2, (3, none, 63)), (1, (3, none, 0)), (0, (4, none, 0))], [], 114, 22650)], k_h1, [((-2147483648), 2147483647), (31, 2147483647), ((-2147483648), 2147483647), ((-2147483648), 2147483647), ((-2147483648), 2147483647), ((-2147483648), 2147483647), (6, 6), (14, 14)])
theorem k_T123_ok : ∃ n, x_run k_P n k_T123 = true := ⟨71, by decide +kernel⟩
theorem k_T29_ok : ∃ n, x_run k_P n k_T29 = true := x_fan_ok (l := [k_T30, k_T123]) (by decide +kernel) (List.forall_mem_cons.mpr ⟨k_T30_ok, List.forall_mem_cons.mpr ⟨k_T123_ok, fun _ h => absurd h List.not_mem_nil⟩⟩)
theorem k_T28_ok : ∃ n, x_run k_P n k_T28 = true := x_adv_ok (n := 2) (T := k_T29) (by decide +kernel) k_T29_ok
theorem k_T26_ok : ∃ n, x_run k_P n k_T26 = true := x_fan_ok (l := [k_T27, k_T28]) (by decide +kernel) (List.forall_mem_cons.mpr ⟨k_T27_ok, List.forall_mem_cons.mpr ⟨k_T28_ok, fun _ h => absurd h List.not_mem_nil⟩⟩)
theorem k_T25_ok : ∃ n, x_run k_P n k_T25 = true := x_adv_ok (n := 9) (T := k_T26) (by decide +kernel) k_T26_ok
def k_T124 : xS := ([(0, 659, [(3, (0, none, 0)), (2, (3, none, 63)), (1, (3, none, 0)), (0, (4, none, 0))], [], 114, 22650)], k_h1, [((-2147483648), 2147483647), ((-2147483648), 2147483647), ((-2147483648), 2147483647), ((-2147483648), 2147483647), ((-2147483648), 2147483647), ((-2147483648), 2147483647), (6, 6), (15, 15)])
theorem k_T124_ok : ∃ n, x_run k_P n k_T124 = true := ⟨66, by decide +kernel⟩
def k_T125 : xS := ([(0, 672, [(3, (0, none, 0)), (2, (3, none, 63)), (1, (3, none, 0)), (0, (4, none, 0))], [], 114, 22650)], k_h1, [((-2147483648), 2147483647), ((-2147483648), 2147483647), ((-2147483648), 2147483647), ((-2147483648), 2147483647), ((-2147483648), 2147483647), ((-2147483648), 2147483647), (6, 6), (16, 16)])
theorem k_T125_ok : ∃ n, x_run k_P n k_T125 = true := ⟨104, by decide +kernel⟩
def k_T126 : xS := ([(0, 695, [(3, (0, none, 0)), (2, (3, none, 63)), (1, (3, none, 0)), (0, (4, none, 0))], [], 114, 22650)], k_h1, [((-2147483648), 2147483647), ((-2147483648), 2147483647), ((-2147483648), 2147483647), ((-2147483648), 2147483647), ((-2147483648), 2147483647), ((-2147483648), 2147483647), (6, 6), (17, 17)])
theorem k_T126_ok : ∃ n, x_run k_P n k_T126 = true := ⟨122, by decide +kernel⟩
def k_T127 : xS := ([(0, 728, [(3, (0, none, 0)), (2, (3, none, 63)), (1, (3, none, 0)), (0, (4, none, 0))], [], 114, 22650)], k_h1, [((-2147483648), 2147483647), ((-2147483648), 2147483647), ((-2147483648), 2147483647), ((-2147483648), 2147483647), ((-2147483648), 2147483647), ((-2147483648), 2147483647), (6, 6), (18, 18)])
theorem k_T127_ok : ∃ n, x_run k_P n k_T127 = true := ⟨141, by decide +kernel⟩
def k_T128 : xS := ([(0, 781, [(3, (0, none, 0)), (2, (3, none, 63)), (1, (3, none, 0)), (0, (4, none, 0))], [], 114, 22650)], k_h1, [((-2147483648), 2147483647), ((-2147483648), 2147483647), ((-2147483648), 2147483647), ((-2147483648), 2147483647), ((-2147483648), 2147483647), ((-2147483648), 2147483647), (6, 6), (19, 19)])
theorem k_T128_ok : ∃ n, x_run k_P n k_T128 = true := ⟨152, by decide +kernel⟩
def k_T129 : xS := ([(0, 824, [(3, (0, none, 0)), (2, (3, none, 63)), (1, (3, none, 0)), (0, (4, none, 0))], [], 114, 22650)], k_h1, [((-2147483648), 2147483647), ((-2147483648), 2147483647), ((-2147483648), 2147483647), ((-2147483648), 2147483647), ((-2147483648), 2147483647), ((-2147483648), 2147483647), (6, 6), (20, 20)])
theorem k_T129_ok : ∃ n, x_run k_P n k_T129 = true := ⟨219, by decide +kernel⟩
def k_T130 : xS := ([(0, 847, [(3, (0, none, 0)), (2, (3, none, 63)), (1, (3, none, 0)), (0, (4, none, 0))], [], 114, 22650)], k_h1, [((-2147483648), 2147483647), ((-2147483648), 2147483647), ((-2147483648), 2147483647), ((-2147483648), 2147483647), ((-2147483648), 2147483647), ((-2147483648), 2147483647), (6, 6), (21, 21)])
theorem k_T130_ok : ∃ n, x_run k_P n k_T130 = true := ⟨92, by decide +kernel⟩
def k_T131 : xS := ([(0, 870, [(3, (0, none, 0)), (2, (3, none, 63)), (1, (3, none, 0)), (0, (4, none, 0))], [], 114, 22650)], k_h1, [((-2147483648), 2147483647), ((-2147483648), 2147483647), ((-2147483648), 2147483647), ((-2147483648), 2147483647), ((-2147483648), 2147483647), ((-2147483648), 2147483647), (6, 6), (22, 22)])
theorem k_T131_ok : ∃ n, x_run k_P n k_T131 = true := ⟨111, by decide +kernel⟩
def k_T132 : xS := ([(0, 903, [(3, (0, none, 0)), (2, (3, none, 63)), (1, (3, none, 0)), (0, (4, none, 0))], [], 114, 22650)], k_h1, [((-2147483648), 2147483647), ((-2147483648), 2147483647), ((-2147483648), 2147483647), ((-2147483648), 2147483647), ((-2147483648), 2147483647), ((-2147483648), 2147483647), (6, 6), (23, 23)])
theorem k_T132_ok : ∃ n, x_run k_P n k_T132 = true := ⟨92, by decide +kernel⟩
def k_T133 : xS := ([(0, 916, [(3, (0, none, 0)), (2, (3, none, 63)), (1, (3, none, 0)), (0, (4, none, 0))], [], 114, 22650)], k_h1, [((-2147483648), 2147483647), ((-2147483648), 2147483647), ((-2147483648), 2147483647), ((-2147483648), 2147483647), ((-2147483648), 2147483647), ((-2147483648), 2147483647), (6, 6), (24, 24)])
theorem k_T133_ok : ∃ n, x_run k_P n k_T133 = true := ⟨51, by decide +kernel⟩
def k_T134 : xS := ([(0, 949, [(3, (0, none, 0)), (2, (3, none, 63)), (1, (3, none, 0)), (0, (4, none, 0))], [], 114, 22650)], k_h1, [((-2147483648), 2147483647), ((-2147483648), 2147483647), ((-2147483648), 2147483647), ((-2147483648), 2147483647), ((-2147483648), 2147483647), ((-2147483648), 2147483647), (6, 6), (25, 25)])
theorem k_T134_ok : ∃ n, x_run k_P n k_T134 = true := ⟨90, by decide +kernel⟩
def k_T135 : xS := ([(0, 962, [(3, (0, none, 0)), (2, (3, none, 63)), (1, (3, none, 0)), (0, (4, none, 0))], [], 114, 22650)], k_h1, [((-2147483648), 2147483647), ((-2147483648), 2147483647), ((-2147483648), 2147483647), ((-2147483648), 2147483647), ((-2147483648), 2147483647), ((-2147483648), 2147483647), (6, 6), (26, 26)])
theorem k_T135_ok : ∃ n, x_run k_P n k_T135 = true := ⟨91, by decide +kernel⟩
def k_T136 : xS := ([(0, 985, [(3, (0, none, 0)), (2, (3, none, 63)), (1, (3, none, 0)), (0, (4, none, 0))], [], 114, 22650)], k_h1, [((-2147483648), 2147483647), ((-2147483648), 2147483647), ((-2147483648), 2147483647), ((-2147483648), 2147483647), ((-2147483648), 2147483647), ((-2147483648), 2147483647), (6, 6), (27, 27)])
theorem k_T136_ok : ∃ n, x_run k_P n k_T136 = true := ⟨108, by decide +kernel⟩
def k_T137 : xS := ([(0, 998, [(3, (0, none, 0)), (2, (3, none, 63)), (1, (3, none, 0)), (0, (4, none, 0))], [], 114, 22650)], k_h1, [((-2147483648), 2147483647), ((-2147483648), 2147483647), ((-2147483648), 2147483647), ((-2147483648), 2147483647), ((-2147483648), 2147483647), ((-2147483648), 2147483647), (6, 6), (28, 28)])
theorem k_T137_ok : ∃ n, x_run k_P n k_T137 = true := ⟨130, by decide +kernel⟩
theorem k_T4_ok : ∃ n, x_run k_P n k_T4 = true := x_fan_ok (l := [k_T5, k_T6, k_T7, k_T9, k_T10, k_T14, k_T15, k_T16, k_T17, k_T18, k_T19, k_T20, k_T21, k_T22, k_T23, k_T24, k_T25, k_T124, k_T125, k_T126, k_T127, k_T128, k_T129, k_T130, k_T131, k_T132, k_T133, k_T134, k_T135, k_T136, k_T137]) (by decide +kernel) (List.forall_mem_cons.mpr ⟨k_T5_ok, List.forall_mem_cons.mpr ⟨k_T6_ok, List.forall_mem_cons.mpr ⟨k_T7_ok, List.forall_mem_cons.mpr ⟨k_T9_ok, List.forall_mem_cons.mpr ⟨k_T10_ok, List.forall_mem_cons.mpr ⟨k_T14_ok, List.forall_mem_cons.mpr ⟨k_T15_ok, List.forall_mem_cons.mpr ⟨k_T16_ok, List.forall_mem_cons.mpr ⟨k_T17_ok, List.forall_mem_cons.mpr ⟨k_T18_ok, List.forall_mem_cons.mpr ⟨k_T19_ok, List.forall_mem_cons.mpr ⟨k_T20_ok, List.forall_mem_cons.mpr ⟨k_T21_ok, List.forall_mem_cons.mpr ⟨k_T22_ok, List.forall_mem_cons.mpr ⟨k_T23_ok, List.forall_mem_cons.mpr ⟨k_T24_ok, List.forall_mem_cons.mpr ⟨k_T25_ok, List.forall_mem_cons.mpr ⟨k_T124_ok, List.forall_mem_cons.mpr ⟨k_T125_ok, List.forall_mem_cons.mpr ⟨k_T126_ok, List.forall_mem_cons.mpr ⟨k_T127_ok, List.forall_mem_cons.mpr ⟨k_T128_ok, List.forall_mem_cons.mpr ⟨k_T129_ok, List.forall_mem_cons.mpr ⟨k_T130_ok, List.forall_mem_cons.mpr ⟨k_T131_ok, List.forall_mem_cons.mpr ⟨k_T132_ok, List.forall_mem_cons.mpr ⟨k_T133_ok, List.forall_mem_cons.mpr ⟨k_T134_ok, List.forall_mem_cons.mpr ⟨k_T135_ok, List.forall_mem_cons.mpr ⟨k_T136_ok, List.forall_mem_cons.mpr ⟨k_T137_ok, fun _ h => absurd h List.not_mem_nil⟩⟩⟩⟩⟩⟩⟩⟩⟩⟩⟩⟩⟩⟩⟩⟩⟩⟩⟩⟩⟩⟩⟩⟩⟩⟩⟩⟩⟩⟩⟩)
theorem k_T3_ok : ∃ n, x_run k_P n k_T3 = true := x_adv_ok (n := 5) (T := k_T4) (by decide +kernel) k_T4_ok
theorem k_T1_ok : ∃ n, x_run k_P n k_T1 = true := x_fan_ok (l := [k_T2, k_T3]) (by decide +kernel) (List.forall_mem_cons.mpr ⟨k_T2_ok, List.forall_mem_cons.mpr ⟨k_T3_ok, fun _ h => absurd h List.not_mem_nil⟩⟩)
theorem k_T0_ok : ∃ n, x_run k_P n k_T0 = true := x_adv_ok (n := 403) (T := k_T1) (by decide +kernel) k_T1_ok
theorem k_S_ok : ∃ n, x_run k_P n k_S = true := x_adv_ok (n := 500) (T := k_T0) (by decide +kernel) k_T0_ok
end
section
-- ===== end of PART A; then your names; then what follows =====
/-! THE CLAIM OUT OF ONE WALK OF THE LAW'S BODY. Your part is whole_start (and what it stands on); all else here is the same for every law, but numbers. -/
def R_law : String := "OwnChairLaw"
def lw_P (b : Addr) (xs : List Int32) (args : Array Value) (s : State) : Prop := args = #[.ref b] ∧ s.IntsAt b xs ∧ xs.length ≤ 6 ∧ (Jvm.Cond.and given_1 narrow_1).before args s = true
def lw_Q (_ : Array Value) (s : State) (o : Outcome) (t : State) : Prop := o = .returned (some (.int 1)) ∧ Framed s o t [] 600000 7302250
def lw_Z (below : List Frame) (a : Array Value) (s : State) : State → Prop := fun t => ∃ o, t.status = .running ∧ Ended t below o ∧ lw_Q a s o t
/-- the law's own end, with 1 on the stack, nothing written that was there before, its room as the claim has it -/
theorem lw_ret {p : Program} {l : Launch} {e : Env} {s : State} {m : MethodId} {below : List Frame} {meth : Method} {c : Code} {b : Nat} (hx : p.tables.exec = Jvm.exec) (hb : c.code = code) (hr : meth.sig.returnType = ret) (hlocks : meth.locks = false) {pc : Nat} {H : Heap} {ls : Array Slot} (hdg : decode code pc = .ok (.ireturn, 1)) : W p l e room_1 s m #[Value.ref b] below meth c H [] 600000 7302250 (lw_Z below #[Value.ref b] s) (F0 m pc ls [.int 1]) := by
  intro T hT X
  obtain ⟨fs, hret, hrun, hended, hW, hframe⟩ := X.leave (v := some (.int 1)) (hlocks := hlocks) (fun h => by rw [hr] at h; cases h)
  have hmeth' : T.vm.method? m = some meth := X.method'
  refine ⟨T.setFrames fs, ?_, .returned (some (.int 1)), hrun, hended, rfl, ⟨_, rfl⟩, hW, hframe⟩
  jvm_step X.here [X.here.top, hx, hb, hdg, hmeth', hr, ret, narrow_b1]
  (try refine ⟨rfl, ?_⟩); (try refine ⟨rfl, ?_⟩)
  first | (intro acts; rw [hret _ acts rfl rfl rfl]) | rw [hret _ _ rfl rfl rfl]
  exact Steps.refl _
/-- what holds at the law's entry: the machine, the code, the tables' words (any of lw_tbl by 'hts w (by decide +kernel)'), the script of L ints xs at the cell b, what the Statement gives of the start (any of its parts by flat_of_before) -/
def lw_At (p : Program) (s : State) (m : MethodId) (meth : Method) (c : Code) (b L : Nat) (xs : Nat → Int32) : Prop :=
  p.tables.exec = Jvm.exec ∧ c.code = code ∧ meth.sig.returnType = ret ∧ c.maxLocals = 4 ∧ s.vm.findClass R_law = some m.cls ∧ (∀ w ∈ lw_tbl, w.before #[Value.ref b] s = true) ∧ va_X b L xs s s.heap ∧ b < s.heap.size ∧ meth.locks = false ∧ (Jvm.Cond.and given_1 narrow_1).before #[Value.ref b] s = true
/-- the classes' numbers -/
theorem k_D {s : State} {args : Array Value} (hts : ∀ w ∈ x_tbl, w.before args s = true) : ∃ D : va_G, ∀ (k : Nat) (q : vw_C), k_cl[k]? = some q → u_Kn s q.1 q.2.1 q.2.2 (D.1 k) (D.2 k) := by
  have h : ∀ k : Nat, ∃ (cC : ClassId) (iS : Nat → Nat), ∀ q : vw_C, k_cl[k]? = some q → u_Kn s q.1 q.2.1 q.2.2 cC iS := by
    intro k
    cases hk : k_cl[k]? with
    | none => exact ⟨0, fun _ => 0, fun q hq => by cases hq⟩
    | some C =>
      have hi : Cond.instantiable C.1 C.2.2 ∈ x_tbl := k_chk_ok k_inst _ (List.mem_map.mpr ⟨C, List.mem_of_getElem? hk, rfl⟩)
      obtain ⟨cC, iS, h1⟩ := u_known (C := C.1) (T := C.2.1) (N := C.2.2) (n := C.2.2) hts (k_classes k C hk).1 (hts _ hi)
      exact ⟨cC, iS, fun q hq => by cases hq; exact h1⟩
  exact ⟨(fun k => Classical.choose (h k), fun k => Classical.choose (Classical.choose_spec (h k))), fun k q hq => Classical.choose_spec (Classical.choose_spec (h k)) q hq⟩
theorem k0_nm : x_nm k_P 0 = yL_law := rfl
theorem k0_by : x_by k_P 0 = code := rfl
theorem k0_rt : x_rt k_P 0 = ret := rfl
theorem k0_maxL : x_maxL k_P 0 = 4 := rfl
theorem k0_mc : x_mc k_P 0 = 600000 := rfl
theorem k0_ms : x_ms k_P 0 = 7302250 := rfl
set_option maxHeartbeats 4000000 in
/-- THE LAW, from its entry -/
theorem whole_start {p : Program} {e : Env} {s : State} {m : MethodId} {below : List Frame} {meth : Method} {c : Code} (l : Launch) {b L : Nat} {xs : Nat → Int32} (hL : L ≤ 6) (C0 : lw_At p s m meth c b L xs) : W p l e room_1 s m #[Value.ref b] below meth c s.heap [] 0 0 (lw_Z below #[Value.ref b] s) (entryFrame m ([Value.ref b] : List Value).toArray 4) := by
  obtain ⟨hx, hb, hr, hml, hown, hts0, hX, hbl, hlocks, hgv⟩ := id C0
  have hts : ∀ w ∈ x_tbl, w.before #[Value.ref b] s = true := fun w hw => hts0 w (List.mem_filter.mp hw).1
  have hnest : ∀ w ∈ x_nest, va_Nw w s := by
    intro w hw
    have hn : x_isNest w = true := (List.mem_filter.mp hw).2
    have ht : w.onTables = true := by cases w <;> first | rfl | cases hn
    exact va_Nw.of ht (hts0 w (List.mem_filter.mp hw).1)
  obtain ⟨D, hKc⟩ := k_D hts
  obtain ⟨n, hn⟩ := k_S_ok
  have hctx : x_Ctx k_P s.heap.size p room_1 s m #[Value.ref b] meth c 0 0 := by
    refine ⟨hx, by rw [k0_by]; exact hb, by rw [k0_rt]; exact hr, by rw [k0_maxL]; exact hml, by rw [k0_nm]; exact hown, hts, hnest, hlocks, fun z => ?_, Nat.le_refl _, by decide, by decide, by rw [k0_mc]; decide, by rw [k0_ms]; decide⟩
    rw [k0_nm] at z
    exact absurd z (by decide)
  have hscr : x_Scr s.heap.size b [(xs 0).toInt, (xs 1).toInt, (xs 2).toInt, (xs 3).toInt, (xs 4).toInt, (xs 5).toInt, (L : Int)] s := by
    refine ⟨L, xs, hX, hbl, Nat.not_le.mpr hbl, hL, rfl, fun j hj => ?_⟩
    match j, hj with
    | 0, _ => rfl
    | 1, _ => rfl
    | 2, _ => rfl
    | 3, _ => rfl
    | 4, _ => rfl
    | 5, _ => rfl
    | j + 6, hj => exact absurd hj (by omega)
  have henv : x_env [(xs 0).toInt, (xs 1).toInt, (xs 2).toInt, (xs 3).toInt, (xs 4).toInt, (xs 5).toInt, (L : Int)] k_E := by
    refine ⟨rfl, fun i q r h1 h2 => ?_⟩
    match i, h1, h2 with
    | 0, h1, h2 => cases h1; cases h2; exact x_i32 _
    | 1, h1, h2 => cases h1; cases h2; exact x_i32 _
    | 2, h1, h2 => cases h1; cases h2; exact x_i32 _
    | 3, h1, h2 => cases h1; cases h2; exact x_i32 _
    | 4, h1, h2 => cases h1; cases h2; exact x_i32 _
    | 5, h1, h2 => cases h1; cases h2; exact x_i32 _
    | 6, h1, h2 => cases h1; cases h2; exact ⟨by show (0 : Int) ≤ L; omega, by show (L : Int) ≤ 6; omega⟩
    | i + 7, h1, _ => simp [k_E] at h1
  have main := x_snd (P := k_P) (D := D) (cl := k_cl) (B0 := s.heap.size) (sc := b) (l := l) k_ok n 0 0 [(0, (4, none, 0))] [] 0 0 [] [] k_E hn p e room_1 s m #[Value.ref b] below meth c (lw_Z below #[Value.ref b] s) [(xs 0).toInt, (xs 1).toInt, (xs 2).toInt, (xs 3).toInt, (xs 4).toInt, (xs 5).toInt, (L : Int)] [] hctx (by decide) (fun _ => hscr) (by
    intro n' pc Lv st cc ss h' E' i len hn' hcode hret hrun'
    obtain ⟨k, rfl⟩ : ∃ k, n' = k + 1 := by
      cases n' with
      | zero => cases hrun'
      | succ k => exact ⟨k, rfl⟩
    obtain ⟨lst, hstep, hall⟩ := x_run_ok hrun'
    have hstep : x_ins k_P 0 pc Lv st cc ss [] h' E' i len = some lst := by
      have : x_step k_P ((0, pc, Lv, st, cc, ss) :: [], h', E') = x_ins k_P 0 pc Lv st cc ss [] h' E' i len := by
        simp only [x_step, hcode]
      rw [← this]
      exact hstep
    have hdec := k_ok.1 0 pc i len hcode
    rw [k0_by] at hdec
    intro ρ' ad' H locs ls stc e1 e2 hrel hfr
    obtain ⟨lv, h1, h2, h3⟩ := hfr
    obtain ⟨ws', tys', aK, aP, aD, aS, aH, aE⟩ := hrel
    rcases hret with rfl | rfl | rfl
    · obtain ⟨b1, b2⟩ := x_if_ok (show x_if (len == 1) (x_ret k_P 0 st cc ss [] h' E' 0) = some lst from hstep)
      cases x_len b1
      cases st with
      | nil => cases b2
      | cons v r =>
        cases r with
        | cons _ _ => cases b2
        | nil =>
          unfold x_ret at b2
          dsimp only at b2
          split at b2
          next hv =>
            split at b2
            next hc =>
              obtain ⟨x, ys, rfl, gx, h4⟩ := h3.cons
              rw [h4.nil]
              obtain ⟨nn, rfl, gn⟩ := gx.int hv
              rw [hc.2.2.1, hc.2.2.2.1] at gn
              have gn : nn.toInt = 1 := gn
              have e3 : nn = 1 := Int32.toInt_inj.mp gn
              subst e3
              have m1 := hc.2.2.2.2.1
              have m2 := hc.2.2.2.2.2
              rw [k0_mc] at m1
              rw [k0_ms] at m2
              refine va_forget (fun q hq => aS.2.2 q hq) ?_
              refine W.widen (k := 600000) (n := 7302250) m1 m2 ?_
              exact lw_ret hx hb hr hlocks hdec
            next => cases b2
          next => cases b2
    · obtain ⟨b1, b2⟩ := x_if_ok (show x_if (len == 1) (x_ret k_P 0 st cc ss [] h' E' 1) = some lst from hstep)
      cases st with
      | nil => cases b2
      | cons v r =>
        cases r with
        | cons _ _ => cases b2
        | nil =>
          unfold x_ret at b2
          dsimp only at b2
          split at b2
          next hv =>
            split at b2
            next hc => exact absurd hc.1 (by decide)
            next => cases b2
          next => cases b2
    · obtain ⟨b1, b2⟩ := x_if_ok (show x_if (len == 1) (x_retV k_P 0 st cc ss [] h' E') = some lst from hstep)
      cases st with
      | nil => cases b2
      | cons v r => cases b2)
  rw [k0_maxL] at main
  rw [lg_entry_eq]
  have hl := lv_entry ([.ref b]) (n := 4) (Nat.le_of_ble_eq_true rfl)
  refine main _ [] s.heap [] _ [] (x_ext.rf _) (x_ext.rf _) ⟨[], [], ⟨hKc, fun k q h => by simp at h⟩, fun k q h => by simp at h, ⟨fun i j p q h => by simp at h, fun k q h => by simp at h⟩, va_S.rf, ⟨rfl, rfl, fun k c q h => by simp at h⟩, henv⟩ ⟨_, hl, ⟨rfl, rfl, trivial⟩, trivial⟩
-- ===== YOUR PART ENDS =====
set_option maxHeartbeats 4000000 in
theorem lw_walk (l : Launch) (b : Addr) (xs : List Int32) : MetFree l x (headSpec (Jvm.Cond.code x code maxLocals ret :: tables_1) room_1) (lw_P b xs) (fun _ _ _ _ _ => True) lw_Q := by
  refine MetFree.of_bodyS (code := code) (maxLocals := maxLocals) (ret := ret) (by decide) ?_ ?_
  · intro args s m h hn
    obtain ⟨meth, c, h1, h2, h3, h4, h5, h6, -, -⟩ := Cond.code_spec hn (atoms_spec (ws := Jvm.Cond.code x code maxLocals ret :: tables_1) h _ List.mem_cons_self)
    exact ⟨meth, c, h1, h2, h3, h4, h5, h6⟩
  · intro p e s m args below meth c s₁ B hml0 hP _
    obtain ⟨rfl, hx, hbd, hgv⟩ := hP
    obtain ⟨scr, harrAt, hlist, hof, hsmall⟩ := hx
    obtain ⟨hcb, hkn, -, -⟩ := State.arrayAt?_spec harrAt
    have hown : s.vm.findClass R_law = some m.cls := findClass_of_methodNamed B.named
    have hts0 : ∀ c ∈ (Jvm.Cond.code x code maxLocals ret :: tables_1), c.before #[Value.ref b] s = true := atoms_spec (ws := Jvm.Cond.code x code maxLocals ret :: tables_1) B.pre
    have hts : ∀ w ∈ lw_tbl, w.before #[Value.ref b] s = true := k2_hts_sels lw_privs (fun w hw => hts0 w (List.mem_cons_of_mem _ hw)) lw_privs_ok
    have hml : c.maxLocals = 4 := B.maxLocals_eq (hts0 _ List.mem_cons_self)
    have X₀ : Stand p l e room_1 s m #[Value.ref b] below meth c s₁ [] 0 0 := Stand.of_body B
    have hh0 : s₁.heap = s.heap := by rw [B.state]; rfl
    have hsz : scr.slots.size = xs.length := by rw [← Array.length_toList, hlist, List.length_map]
    have hval : ∀ j : Nat, j < xs.length → scr.slots[j]? = some (.int (xs.getD j 0)) := fun j hj => by
      rw [← Array.getElem?_toList, hlist]
      simp [hj]
    have hbl : b < s.heap.size := (Array.getElem?_eq_some_iff.mp hcb).1
    have hX : va_X b xs.length (fun j => xs.getD j 0) s s.heap := ⟨scr, hcb, hof, hkn, hsz, hval⟩
    have K : W p l e room_1 s m #[Value.ref b] below meth c s₁.heap [] 0 0 (lw_Z below #[Value.ref b] s) (entryFrame m ([Value.ref b] : List Value).toArray 4) := by
      rw [hh0]
      exact whole_start l hbd ⟨B.exec, B.bytes, B.returns, hml, hown, hts, hX, hbl, B.notSynchronized, hgv⟩
    obtain ⟨t, a1, o, b1, b2, b3⟩ := K s₁ rfl X₀
    exact ⟨t, o, a1, b1, b2, b3⟩
theorem lw_pre_spec {args : Array Value} {s : State} (h : (Jvm.Cond.and given_1 narrow_1).before args s = true) (hr : rest_1_c.before args s = true) : ∃ (b : Addr) (xs : List Int32), lw_P b xs args s := by
  have hs := flat_of_before _ h
  have hq := flat_of_before _ hr
  have hc : (Cond.count 1).before args s = true := hs _ (by decide +kernel)
  have harr : (Cond.arrayOf (.arg 0) .int).before args s = true := hs _ (by decide +kernel)
  have hle : (Cond.le (.length (.arg 0)) (.int 6)).before args s = true := hs _ (by decide +kernel)
  have hlen : (Cond.isInt (.length (.arg 0))).before args s = true := hq _ (by decide +kernel)
  have hall : (Cond.all (.arg 0) (.isInt (.elem (.arg 0) (.index 0)))).before args s = true := hq _ (by decide +kernel)
  obtain ⟨b, xs, hb, hx⟩ := State.ints_of_pre rfl harr hlen hall
  have hsm : xs.length < 2 ^ 31 := hx.choose_spec.2.2.2
  have hev : (Term.length (.arg 0)).eval args s none [] s = some (.int xs.length.toInt32) := hx.length_eval hb
  have hv := Cond.le_ints hev (show (Term.int 6).eval args s none [] s = some (.int 6) from rfl)
  have hd : xs.length.toInt32 ≤ 6 := by
    simpa [Cond.before, Cond.holds, hv] using hle
  have hN : xs.length ≤ 6 := (Int32.ofNat_le_ofNat hsm (by decide)).mp (show Int32.ofNat xs.length ≤ Int32.ofNat 6 from hd)
  exact ⟨b, xs, Cond.one_arg hc (show args[0]? = some (.ref b) from hb), hx, hN, h⟩
theorem lw_comes (l : Launch) : Comes l x (Jvm.Cond.code x code maxLocals ret :: tables_1) room_1 (fun tb e args s => Calls_1 tb e args s ∧ rest_1 tb e args s ∧ Pre_1 tb e args s)
    (fun _ _ args s o t => lw_Q args s o t) := by
  intro p e ha hc hk s m args below hf hfit hheap happ hpre
  obtain ⟨b, xs, hP⟩ := lw_pre_spec hpre.2.2 hpre.2.1
  obtain ⟨k, o, h1, h2, h3, hQ⟩ := lw_walk l b xs p e ha hc hk s m args below hf ((Spec.applies_iff_loose hf).mp happ).1 hP trivial
  exact ⟨k, o, h1, h2, h3, hQ⟩
theorem lw_frame {s t : State} {o : Outcome} {args : Array Value} (h : Framed s o t [] 600000 7302250) :
    Framed s o t (fieldLocs frame_1_writes args s ++ arrayLocs frame_1_arrays args s ++ staticLocs frame_1_statics s) 600000 7302250 := h
theorem lw_limb (L : Cond) (hL : ∀ (args : Array Value) (s t : State), L.after args s (.returned (some (.int 1))) t = true) :
    ArmFor flags0 classFile x code maxLocals ret World_1 tables_1 room_1 Calls_1 rest_1 Pre_1
      (fun tb e a s o t => postC L tb e a s o t ∧ Framed s o t (fieldLocs frame_1_writes a s ++ arrayLocs frame_1_arrays a s ++ staticLocs frame_1_statics s) 600000 7302250) := by
  intro l _ _ _ p e ha hc hk s m args below hf hfit hheap happ hpre
  obtain ⟨k, o, h1, h2, h3, rfl, hF⟩ := lw_comes l p e ha hc hk s m args below hf hfit hheap happ hpre
  exact ⟨k, _, h1, h2, h3, hL args s _, lw_frame hF⟩
theorem i_vc : Claimed_1_1 ∧ Claimed_1_2 := ⟨lw_limb limb_1_1 (fun args s t => by simp [limb_1_1, Cond.after, Cond.holds, Cond.value]), lw_limb limb_1_2 (fun args s t => Cond.after_iff.mpr (by
  first | (rw [show limb_1_2 = Cond.eq .result (.int 1) from rfl, Cond.eq_ints (x := 1) (y := 1) rfl rfl]; simp; done) | (simp [limb_1_2, Cond.value, Term.eval]; done)))⟩
end
