section
-- ===== PART A: goes FIRST, ahead of the names: the tables' words, and 'selects' of the private methods out of them =====
/-- a private method of a class that the tables say can be made, by its rows of tables_1 -/
def lw_okq (q : MethodName × Nat) : Prop := (q.1.cls ≠ "java/lang/invoke/MethodHandle" ∧ q.1.cls ≠ "java/lang/invoke/VarHandle") ∧ Cond.instantiable q.1.cls q.2 ∈ tables_1 ∧ Cond.privateMethod q.1 ∈ tables_1 ∧ Cond.instanceMethod q.1 ∈ tables_1
theorem lw_p0 : lw_okq (⟨"OwnChair", "refuse", "(I)I"⟩, 13) := ⟨⟨by decide +kernel, by decide +kernel⟩, List.mem_of_getElem? (i := 19) (by decide +kernel), List.mem_of_getElem? (i := 398) (by decide +kernel), List.mem_of_getElem? (i := 399) (by decide +kernel)⟩
theorem lw_p1 : lw_okq (⟨"OwnChair$Lexer", "readWord", "()V"⟩, 8) := ⟨⟨by decide +kernel, by decide +kernel⟩, List.mem_of_getElem? (i := 62) (by decide +kernel), List.mem_of_getElem? (i := 456) (by decide +kernel), List.mem_of_getElem? (i := 457) (by decide +kernel)⟩
theorem lw_p2 : lw_okq (⟨"OwnChair$Lexer", "readNumber", "()V"⟩, 8) := ⟨⟨by decide +kernel, by decide +kernel⟩, List.mem_of_getElem? (i := 62) (by decide +kernel), List.mem_of_getElem? (i := 464) (by decide +kernel), List.mem_of_getElem? (i := 465) (by decide +kernel)⟩
theorem lw_p3 : lw_okq (⟨"OwnChair$TownReader", "readStatement", "(LOwnChair$Town;)Z"⟩, 3) := ⟨⟨by decide +kernel, by decide +kernel⟩, List.mem_of_getElem? (i := 50) (by decide +kernel), List.mem_of_getElem? (i := 468) (by decide +kernel), List.mem_of_getElem? (i := 469) (by decide +kernel)⟩
theorem lw_p4 : lw_okq (⟨"OwnChair$TownReader", "readRoom", "(LOwnChair$Town;)Z"⟩, 3) := ⟨⟨by decide +kernel, by decide +kernel⟩, List.mem_of_getElem? (i := 50) (by decide +kernel), List.mem_of_getElem? (i := 473) (by decide +kernel), List.mem_of_getElem? (i := 474) (by decide +kernel)⟩
theorem lw_p5 : lw_okq (⟨"OwnChair$TownReader", "freshName", "(LOwnChair$Town;)I"⟩, 3) := ⟨⟨by decide +kernel, by decide +kernel⟩, List.mem_of_getElem? (i := 50) (by decide +kernel), List.mem_of_getElem? (i := 477) (by decide +kernel), List.mem_of_getElem? (i := 478) (by decide +kernel)⟩
theorem lw_p6 : lw_okq (⟨"OwnChair$TownReader", "readNumber", "(III)Z"⟩, 3) := ⟨⟨by decide +kernel, by decide +kernel⟩, List.mem_of_getElem? (i := 50) (by decide +kernel), List.mem_of_getElem? (i := 493) (by decide +kernel), List.mem_of_getElem? (i := 494) (by decide +kernel)⟩
theorem lw_p7 : lw_okq (⟨"OwnChair$TownReader", "readWay", "(LOwnChair$Town;)Z"⟩, 3) := ⟨⟨by decide +kernel, by decide +kernel⟩, List.mem_of_getElem? (i := 50) (by decide +kernel), List.mem_of_getElem? (i := 506) (by decide +kernel), List.mem_of_getElem? (i := 507) (by decide +kernel)⟩
theorem lw_p8 : lw_okq (⟨"OwnChair$TownReader", "knownRoom", "(LOwnChair$Town;)I"⟩, 3) := ⟨⟨by decide +kernel, by decide +kernel⟩, List.mem_of_getElem? (i := 50) (by decide +kernel), List.mem_of_getElem? (i := 510) (by decide +kernel), List.mem_of_getElem? (i := 511) (by decide +kernel)⟩
theorem lw_p9 : lw_okq (⟨"OwnChair$TownReader", "readPerson", "(LOwnChair$Town;)Z"⟩, 3) := ⟨⟨by decide +kernel, by decide +kernel⟩, List.mem_of_getElem? (i := 50) (by decide +kernel), List.mem_of_getElem? (i := 523) (by decide +kernel), List.mem_of_getElem? (i := 524) (by decide +kernel)⟩
theorem lw_p10 : lw_okq (⟨"OwnChair$TownReader", "readHome", "(LOwnChair$Town;I)I"⟩, 3) := ⟨⟨by decide +kernel, by decide +kernel⟩, List.mem_of_getElem? (i := 50) (by decide +kernel), List.mem_of_getElem? (i := 530) (by decide +kernel), List.mem_of_getElem? (i := 531) (by decide +kernel)⟩
theorem lw_p11 : lw_okq (⟨"OwnChair$TownReader", "readJoined", "(LOwnChair$Town;)Z"⟩, 3) := ⟨⟨by decide +kernel, by decide +kernel⟩, List.mem_of_getElem? (i := 50) (by decide +kernel), List.mem_of_getElem? (i := 543) (by decide +kernel), List.mem_of_getElem? (i := 544) (by decide +kernel)⟩
theorem lw_p12 : lw_okq (⟨"OwnChair$TownReader", "unjoinedPerson", "(LOwnChair$Town;I)I"⟩, 3) := ⟨⟨by decide +kernel, by decide +kernel⟩, List.mem_of_getElem? (i := 50) (by decide +kernel), List.mem_of_getElem? (i := 547) (by decide +kernel), List.mem_of_getElem? (i := 548) (by decide +kernel)⟩
theorem lw_p13 : lw_okq (⟨"OwnChair$TownReader", "beginSum", "(LOwnChair$Formula;)Z"⟩, 3) := ⟨⟨by decide +kernel, by decide +kernel⟩, List.mem_of_getElem? (i := 50) (by decide +kernel), List.mem_of_getElem? (i := 559) (by decide +kernel), List.mem_of_getElem? (i := 560) (by decide +kernel)⟩
theorem lw_p14 : lw_okq (⟨"OwnChair$SumReader", "readSum", "(LOwnChair$Formula;I)Z"⟩, 1) := ⟨⟨by decide +kernel, by decide +kernel⟩, List.mem_of_getElem? (i := 56) (by decide +kernel), List.mem_of_getElem? (i := 563) (by decide +kernel), List.mem_of_getElem? (i := 564) (by decide +kernel)⟩
theorem lw_p15 : lw_okq (⟨"OwnChair$SumReader", "readProduct", "(LOwnChair$Formula;I)Z"⟩, 1) := ⟨⟨by decide +kernel, by decide +kernel⟩, List.mem_of_getElem? (i := 56) (by decide +kernel), List.mem_of_getElem? (i := 567) (by decide +kernel), List.mem_of_getElem? (i := 568) (by decide +kernel)⟩
def lw_privs_1 : List (MethodName × Nat) := [(⟨"OwnChair", "refuse", "(I)I"⟩, 13), (⟨"OwnChair$Lexer", "readWord", "()V"⟩, 8), (⟨"OwnChair$Lexer", "readNumber", "()V"⟩, 8), (⟨"OwnChair$TownReader", "readStatement", "(LOwnChair$Town;)Z"⟩, 3), (⟨"OwnChair$TownReader", "readRoom", "(LOwnChair$Town;)Z"⟩, 3), (⟨"OwnChair$TownReader", "freshName", "(LOwnChair$Town;)I"⟩, 3), (⟨"OwnChair$TownReader", "readNumber", "(III)Z"⟩, 3), (⟨"OwnChair$TownReader", "readWay", "(LOwnChair$Town;)Z"⟩, 3), (⟨"OwnChair$TownReader", "knownRoom", "(LOwnChair$Town;)I"⟩, 3), (⟨"OwnChair$TownReader", "readPerson", "(LOwnChair$Town;)Z"⟩, 3), (⟨"OwnChair$TownReader", "readHome", "(LOwnChair$Town;I)I"⟩, 3), (⟨"OwnChair$TownReader", "readJoined", "(LOwnChair$Town;)Z"⟩, 3), (⟨"OwnChair$TownReader", "unjoinedPerson", "(LOwnChair$Town;I)I"⟩, 3), (⟨"OwnChair$TownReader", "beginSum", "(LOwnChair$Formula;)Z"⟩, 3), (⟨"OwnChair$SumReader", "readSum", "(LOwnChair$Formula;I)Z"⟩, 1), (⟨"OwnChair$SumReader", "readProduct", "(LOwnChair$Formula;I)Z"⟩, 1)]
theorem lw_r1 : ∀ q ∈ lw_privs_1, lw_okq q := List.forall_mem_cons.mpr ⟨lw_p0, List.forall_mem_cons.mpr ⟨lw_p1, List.forall_mem_cons.mpr ⟨lw_p2, List.forall_mem_cons.mpr ⟨lw_p3, List.forall_mem_cons.mpr ⟨lw_p4, List.forall_mem_cons.mpr ⟨lw_p5, List.forall_mem_cons.mpr ⟨lw_p6, List.forall_mem_cons.mpr ⟨lw_p7, List.forall_mem_cons.mpr ⟨lw_p8, List.forall_mem_cons.mpr ⟨lw_p9, List.forall_mem_cons.mpr ⟨lw_p10, List.forall_mem_cons.mpr ⟨lw_p11, List.forall_mem_cons.mpr ⟨lw_p12, List.forall_mem_cons.mpr ⟨lw_p13, List.forall_mem_cons.mpr ⟨lw_p14, List.forall_mem_cons.mpr ⟨lw_p15, fun _ h => absurd h List.not_mem_nil⟩⟩⟩⟩⟩⟩⟩⟩⟩⟩⟩⟩⟩⟩⟩⟩
theorem lw_p16 : lw_okq (⟨"OwnChair$SumReader", "readPart", "(LOwnChair$Formula;I)Z"⟩, 1) := ⟨⟨by decide +kernel, by decide +kernel⟩, List.mem_of_getElem? (i := 56) (by decide +kernel), List.mem_of_getElem? (i := 571) (by decide +kernel), List.mem_of_getElem? (i := 572) (by decide +kernel)⟩
theorem lw_p17 : lw_okq (⟨"OwnChair$SumReader", "readSimple", "(LOwnChair$Formula;I)Z"⟩, 1) := ⟨⟨by decide +kernel, by decide +kernel⟩, List.mem_of_getElem? (i := 56) (by decide +kernel), List.mem_of_getElem? (i := 575) (by decide +kernel), List.mem_of_getElem? (i := 576) (by decide +kernel)⟩
theorem lw_p18 : lw_okq (⟨"OwnChair$SumReader", "opens", "(CI)Z"⟩, 1) := ⟨⟨by decide +kernel, by decide +kernel⟩, List.mem_of_getElem? (i := 56) (by decide +kernel), List.mem_of_getElem? (i := 602) (by decide +kernel), List.mem_of_getElem? (i := 603) (by decide +kernel)⟩
theorem lw_p19 : lw_okq (⟨"OwnChair$SumReader", "readPair", "(LOwnChair$Formula;II)Z"⟩, 1) := ⟨⟨by decide +kernel, by decide +kernel⟩, List.mem_of_getElem? (i := 56) (by decide +kernel), List.mem_of_getElem? (i := 615) (by decide +kernel), List.mem_of_getElem? (i := 616) (by decide +kernel)⟩
theorem lw_p20 : lw_okq (⟨"OwnChair$SumReader", "readChoice", "(LOwnChair$Formula;I)Z"⟩, 1) := ⟨⟨by decide +kernel, by decide +kernel⟩, List.mem_of_getElem? (i := 56) (by decide +kernel), List.mem_of_getElem? (i := 619) (by decide +kernel), List.mem_of_getElem? (i := 620) (by decide +kernel)⟩
theorem lw_p21 : lw_okq (⟨"OwnChair$SumReader", "readTest", "(LOwnChair$Formula;I)Z"⟩, 1) := ⟨⟨by decide +kernel, by decide +kernel⟩, List.mem_of_getElem? (i := 56) (by decide +kernel), List.mem_of_getElem? (i := 623) (by decide +kernel), List.mem_of_getElem? (i := 624) (by decide +kernel)⟩
theorem lw_p22 : lw_okq (⟨"OwnChair$SumReader", "readBoth", "(LOwnChair$Formula;I)Z"⟩, 1) := ⟨⟨by decide +kernel, by decide +kernel⟩, List.mem_of_getElem? (i := 56) (by decide +kernel), List.mem_of_getElem? (i := 627) (by decide +kernel), List.mem_of_getElem? (i := 628) (by decide +kernel)⟩
theorem lw_p23 : lw_okq (⟨"OwnChair$SumReader", "readFact", "(LOwnChair$Formula;I)Z"⟩, 1) := ⟨⟨by decide +kernel, by decide +kernel⟩, List.mem_of_getElem? (i := 56) (by decide +kernel), List.mem_of_getElem? (i := 631) (by decide +kernel), List.mem_of_getElem? (i := 632) (by decide +kernel)⟩
theorem lw_p24 : lw_okq (⟨"OwnChair$SumReader", "readDenial", "(LOwnChair$Formula;I)Z"⟩, 1) := ⟨⟨by decide +kernel, by decide +kernel⟩, List.mem_of_getElem? (i := 56) (by decide +kernel), List.mem_of_getElem? (i := 637) (by decide +kernel), List.mem_of_getElem? (i := 638) (by decide +kernel)⟩
theorem lw_p25 : lw_okq (⟨"OwnChair$SumReader", "readComparison", "(LOwnChair$Formula;I)Z"⟩, 1) := ⟨⟨by decide +kernel, by decide +kernel⟩, List.mem_of_getElem? (i := 56) (by decide +kernel), List.mem_of_getElem? (i := 642) (by decide +kernel), List.mem_of_getElem? (i := 643) (by decide +kernel)⟩
theorem lw_p26 : lw_okq (⟨"OwnChair$SumReader", "productStep", "()I"⟩, 1) := ⟨⟨by decide +kernel, by decide +kernel⟩, List.mem_of_getElem? (i := 56) (by decide +kernel), List.mem_of_getElem? (i := 648) (by decide +kernel), List.mem_of_getElem? (i := 649) (by decide +kernel)⟩
theorem lw_p27 : lw_okq (⟨"OwnChair$TownReader", "readBreaks", "(LOwnChair$Town;)Z"⟩, 3) := ⟨⟨by decide +kernel, by decide +kernel⟩, List.mem_of_getElem? (i := 50) (by decide +kernel), List.mem_of_getElem? (i := 652) (by decide +kernel), List.mem_of_getElem? (i := 653) (by decide +kernel)⟩
theorem lw_p28 : lw_okq (⟨"OwnChair$TownReader", "readCarpenter", "(LOwnChair$Town;)Z"⟩, 3) := ⟨⟨by decide +kernel, by decide +kernel⟩, List.mem_of_getElem? (i := 50) (by decide +kernel), List.mem_of_getElem? (i := 657) (by decide +kernel), List.mem_of_getElem? (i := 658) (by decide +kernel)⟩
theorem lw_p29 : lw_okq (⟨"OwnChair$Scene", "give", "(III)V"⟩, 4) := ⟨⟨by decide +kernel, by decide +kernel⟩, List.mem_of_getElem? (i := 118) (by decide +kernel), List.mem_of_getElem? (i := 807) (by decide +kernel), List.mem_of_getElem? (i := 808) (by decide +kernel)⟩
theorem lw_p30 : lw_okq (⟨"OwnChair", "move", "(IIII)V"⟩, 13) := ⟨⟨by decide +kernel, by decide +kernel⟩, List.mem_of_getElem? (i := 19) (by decide +kernel), List.mem_of_getElem? (i := 850) (by decide +kernel), List.mem_of_getElem? (i := 851) (by decide +kernel)⟩
theorem lw_p31 : lw_okq (⟨"OwnChair$Scene", "spend", "(II)V"⟩, 4) := ⟨⟨by decide +kernel, by decide +kernel⟩, List.mem_of_getElem? (i := 118) (by decide +kernel), List.mem_of_getElem? (i := 858) (by decide +kernel), List.mem_of_getElem? (i := 859) (by decide +kernel)⟩
def lw_privs_2 : List (MethodName × Nat) := [(⟨"OwnChair$SumReader", "readPart", "(LOwnChair$Formula;I)Z"⟩, 1), (⟨"OwnChair$SumReader", "readSimple", "(LOwnChair$Formula;I)Z"⟩, 1), (⟨"OwnChair$SumReader", "opens", "(CI)Z"⟩, 1), (⟨"OwnChair$SumReader", "readPair", "(LOwnChair$Formula;II)Z"⟩, 1), (⟨"OwnChair$SumReader", "readChoice", "(LOwnChair$Formula;I)Z"⟩, 1), (⟨"OwnChair$SumReader", "readTest", "(LOwnChair$Formula;I)Z"⟩, 1), (⟨"OwnChair$SumReader", "readBoth", "(LOwnChair$Formula;I)Z"⟩, 1), (⟨"OwnChair$SumReader", "readFact", "(LOwnChair$Formula;I)Z"⟩, 1), (⟨"OwnChair$SumReader", "readDenial", "(LOwnChair$Formula;I)Z"⟩, 1), (⟨"OwnChair$SumReader", "readComparison", "(LOwnChair$Formula;I)Z"⟩, 1), (⟨"OwnChair$SumReader", "productStep", "()I"⟩, 1), (⟨"OwnChair$TownReader", "readBreaks", "(LOwnChair$Town;)Z"⟩, 3), (⟨"OwnChair$TownReader", "readCarpenter", "(LOwnChair$Town;)Z"⟩, 3), (⟨"OwnChair$Scene", "give", "(III)V"⟩, 4), (⟨"OwnChair", "move", "(IIII)V"⟩, 13), (⟨"OwnChair$Scene", "spend", "(II)V"⟩, 4)]
theorem lw_r2 : ∀ q ∈ lw_privs_2, lw_okq q := List.forall_mem_cons.mpr ⟨lw_p16, List.forall_mem_cons.mpr ⟨lw_p17, List.forall_mem_cons.mpr ⟨lw_p18, List.forall_mem_cons.mpr ⟨lw_p19, List.forall_mem_cons.mpr ⟨lw_p20, List.forall_mem_cons.mpr ⟨lw_p21, List.forall_mem_cons.mpr ⟨lw_p22, List.forall_mem_cons.mpr ⟨lw_p23, List.forall_mem_cons.mpr ⟨lw_p24, List.forall_mem_cons.mpr ⟨lw_p25, List.forall_mem_cons.mpr ⟨lw_p26, List.forall_mem_cons.mpr ⟨lw_p27, List.forall_mem_cons.mpr ⟨lw_p28, List.forall_mem_cons.mpr ⟨lw_p29, List.forall_mem_cons.mpr ⟨lw_p30, List.forall_mem_cons.mpr ⟨lw_p31, fun _ h => absurd h List.not_mem_nil⟩⟩⟩⟩⟩⟩⟩⟩⟩⟩⟩⟩⟩⟩⟩⟩
theorem lw_p32 : lw_okq (⟨"OwnChair", "chanceOf", "(I)I"⟩, 13) := ⟨⟨by decide +kernel, by decide +kernel⟩, List.mem_of_getElem? (i := 19) (by decide +kernel), List.mem_of_getElem? (i := 870) (by decide +kernel), List.mem_of_getElem? (i := 871) (by decide +kernel)⟩
theorem lw_p33 : lw_okq (⟨"OwnChair", "liveDay", "(I)I"⟩, 13) := ⟨⟨by decide +kernel, by decide +kernel⟩, List.mem_of_getElem? (i := 19) (by decide +kernel), List.mem_of_getElem? (i := 905) (by decide +kernel), List.mem_of_getElem? (i := 906) (by decide +kernel)⟩
theorem lw_p34 : lw_okq (⟨"OwnChair", "canTravel", "(II)Z"⟩, 13) := ⟨⟨by decide +kernel, by decide +kernel⟩, List.mem_of_getElem? (i := 19) (by decide +kernel), List.mem_of_getElem? (i := 944) (by decide +kernel), List.mem_of_getElem? (i := 945) (by decide +kernel)⟩
theorem lw_p35 : lw_okq (⟨"OwnChair$Paths", "layPerson", "(LOwnChair$Scene;II)V"⟩, 7) := ⟨⟨by decide +kernel, by decide +kernel⟩, List.mem_of_getElem? (i := 274) (by decide +kernel), List.mem_of_getElem? (i := 953) (by decide +kernel), List.mem_of_getElem? (i := 954) (by decide +kernel)⟩
theorem lw_p36 : lw_okq (⟨"OwnChair$Paths", "measure", "(II)V"⟩, 7) := ⟨⟨by decide +kernel, by decide +kernel⟩, List.mem_of_getElem? (i := 274) (by decide +kernel), List.mem_of_getElem? (i := 964) (by decide +kernel), List.mem_of_getElem? (i := 965) (by decide +kernel)⟩
theorem lw_p37 : lw_okq (⟨"OwnChair$Paths", "firstOnward", "(II)I"⟩, 7) := ⟨⟨by decide +kernel, by decide +kernel⟩, List.mem_of_getElem? (i := 274) (by decide +kernel), List.mem_of_getElem? (i := 970) (by decide +kernel), List.mem_of_getElem? (i := 971) (by decide +kernel)⟩
theorem lw_p38 : lw_okq (⟨"OwnChair$Errand", "without", "(LOwnChair$Scene;LOwnChair$Tape;III)I"⟩, 3) := ⟨⟨by decide +kernel, by decide +kernel⟩, List.mem_of_getElem? (i := 303) (by decide +kernel), List.mem_of_getElem? (i := 1006) (by decide +kernel), List.mem_of_getElem? (i := 1007) (by decide +kernel)⟩
theorem lw_p39 : lw_okq (⟨"OwnChair$Errand", "arrived", "(LOwnChair$Scene;LOwnChair$Tape;IIII)I"⟩, 3) := ⟨⟨by decide +kernel, by decide +kernel⟩, List.mem_of_getElem? (i := 303) (by decide +kernel), List.mem_of_getElem? (i := 1013) (by decide +kernel), List.mem_of_getElem? (i := 1014) (by decide +kernel)⟩
theorem lw_p40 : lw_okq (⟨"OwnChair$Errand", "with", "(LOwnChair$Scene;LOwnChair$Tape;III)I"⟩, 3) := ⟨⟨by decide +kernel, by decide +kernel⟩, List.mem_of_getElem? (i := 303) (by decide +kernel), List.mem_of_getElem? (i := 1020) (by decide +kernel), List.mem_of_getElem? (i := 1021) (by decide +kernel)⟩
theorem lw_p41 : lw_okq (⟨"OwnChair$Errand", "follow", "(LOwnChair$Scene;LOwnChair$Tape;II)V"⟩, 3) := ⟨⟨by decide +kernel, by decide +kernel⟩, List.mem_of_getElem? (i := 303) (by decide +kernel), List.mem_of_getElem? (i := 1028) (by decide +kernel), List.mem_of_getElem? (i := 1029) (by decide +kernel)⟩
theorem lw_p42 : lw_okq (⟨"OwnChair$Seating", "note", "(LOwnChair$Tape;)V"⟩, 8) := ⟨⟨by decide +kernel, by decide +kernel⟩, List.mem_of_getElem? (i := 321) (by decide +kernel), List.mem_of_getElem? (i := 1066) (by decide +kernel), List.mem_of_getElem? (i := 1067) (by decide +kernel)⟩
theorem lw_p43 : lw_okq (⟨"OwnChair$Seating", "layStates", "(I)Z"⟩, 8) := ⟨⟨by decide +kernel, by decide +kernel⟩, List.mem_of_getElem? (i := 321) (by decide +kernel), List.mem_of_getElem? (i := 1075) (by decide +kernel), List.mem_of_getElem? (i := 1076) (by decide +kernel)⟩
theorem lw_p44 : lw_okq (⟨"OwnChair$Seating", "countBefore", "(LOwnChair$Scene;)V"⟩, 8) := ⟨⟨by decide +kernel, by decide +kernel⟩, List.mem_of_getElem? (i := 321) (by decide +kernel), List.mem_of_getElem? (i := 1080) (by decide +kernel), List.mem_of_getElem? (i := 1081) (by decide +kernel)⟩
theorem lw_p45 : lw_okq (⟨"OwnChair$Seating", "stateBehind", "(LOwnChair$Scene;III)I"⟩, 8) := ⟨⟨by decide +kernel, by decide +kernel⟩, List.mem_of_getElem? (i := 321) (by decide +kernel), List.mem_of_getElem? (i := 1084) (by decide +kernel), List.mem_of_getElem? (i := 1085) (by decide +kernel)⟩
theorem lw_p46 : lw_okq (⟨"OwnChair$Seating", "countPerson", "(LOwnChair$Scene;I)V"⟩, 8) := ⟨⟨by decide +kernel, by decide +kernel⟩, List.mem_of_getElem? (i := 321) (by decide +kernel), List.mem_of_getElem? (i := 1089) (by decide +kernel), List.mem_of_getElem? (i := 1090) (by decide +kernel)⟩
theorem lw_p47 : lw_okq (⟨"OwnChair$Scene", "imageByte", "(II)I"⟩, 4) := ⟨⟨by decide +kernel, by decide +kernel⟩, List.mem_of_getElem? (i := 118) (by decide +kernel), List.mem_of_getElem? (i := 1106) (by decide +kernel), List.mem_of_getElem? (i := 1107) (by decide +kernel)⟩
def lw_privs_3 : List (MethodName × Nat) := [(⟨"OwnChair", "chanceOf", "(I)I"⟩, 13), (⟨"OwnChair", "liveDay", "(I)I"⟩, 13), (⟨"OwnChair", "canTravel", "(II)Z"⟩, 13), (⟨"OwnChair$Paths", "layPerson", "(LOwnChair$Scene;II)V"⟩, 7), (⟨"OwnChair$Paths", "measure", "(II)V"⟩, 7), (⟨"OwnChair$Paths", "firstOnward", "(II)I"⟩, 7), (⟨"OwnChair$Errand", "without", "(LOwnChair$Scene;LOwnChair$Tape;III)I"⟩, 3), (⟨"OwnChair$Errand", "arrived", "(LOwnChair$Scene;LOwnChair$Tape;IIII)I"⟩, 3), (⟨"OwnChair$Errand", "with", "(LOwnChair$Scene;LOwnChair$Tape;III)I"⟩, 3), (⟨"OwnChair$Errand", "follow", "(LOwnChair$Scene;LOwnChair$Tape;II)V"⟩, 3), (⟨"OwnChair$Seating", "note", "(LOwnChair$Tape;)V"⟩, 8), (⟨"OwnChair$Seating", "layStates", "(I)Z"⟩, 8), (⟨"OwnChair$Seating", "countBefore", "(LOwnChair$Scene;)V"⟩, 8), (⟨"OwnChair$Seating", "stateBehind", "(LOwnChair$Scene;III)I"⟩, 8), (⟨"OwnChair$Seating", "countPerson", "(LOwnChair$Scene;I)V"⟩, 8), (⟨"OwnChair$Scene", "imageByte", "(II)I"⟩, 4)]
theorem lw_r3 : ∀ q ∈ lw_privs_3, lw_okq q := List.forall_mem_cons.mpr ⟨lw_p32, List.forall_mem_cons.mpr ⟨lw_p33, List.forall_mem_cons.mpr ⟨lw_p34, List.forall_mem_cons.mpr ⟨lw_p35, List.forall_mem_cons.mpr ⟨lw_p36, List.forall_mem_cons.mpr ⟨lw_p37, List.forall_mem_cons.mpr ⟨lw_p38, List.forall_mem_cons.mpr ⟨lw_p39, List.forall_mem_cons.mpr ⟨lw_p40, List.forall_mem_cons.mpr ⟨lw_p41, List.forall_mem_cons.mpr ⟨lw_p42, List.forall_mem_cons.mpr ⟨lw_p43, List.forall_mem_cons.mpr ⟨lw_p44, List.forall_mem_cons.mpr ⟨lw_p45, List.forall_mem_cons.mpr ⟨lw_p46, List.forall_mem_cons.mpr ⟨lw_p47, fun _ h => absurd h List.not_mem_nil⟩⟩⟩⟩⟩⟩⟩⟩⟩⟩⟩⟩⟩⟩⟩⟩
theorem lw_p48 : lw_okq (⟨"OwnChair$Scene", "floorsHold", "(LOwnChair$Tape;)Z"⟩, 4) := ⟨⟨by decide +kernel, by decide +kernel⟩, List.mem_of_getElem? (i := 118) (by decide +kernel), List.mem_of_getElem? (i := 1125) (by decide +kernel), List.mem_of_getElem? (i := 1126) (by decide +kernel)⟩
theorem lw_p49 : lw_okq (⟨"OwnChairModel", "refuses", "(I)I"⟩, 80) := ⟨⟨by decide +kernel, by decide +kernel⟩, List.mem_of_getElem? (i := 1137) (by decide +kernel), List.mem_of_getElem? (i := 1390) (by decide +kernel), List.mem_of_getElem? (i := 1391) (by decide +kernel)⟩
theorem lw_p50 : lw_okq (⟨"OwnChairModel", "put", "(I)V"⟩, 80) := ⟨⟨by decide +kernel, by decide +kernel⟩, List.mem_of_getElem? (i := 1137) (by decide +kernel), List.mem_of_getElem? (i := 1394) (by decide +kernel), List.mem_of_getElem? (i := 1395) (by decide +kernel)⟩
theorem lw_p51 : lw_okq (⟨"OwnChairModel", "ahead", "()V"⟩, 80) := ⟨⟨by decide +kernel, by decide +kernel⟩, List.mem_of_getElem? (i := 1137) (by decide +kernel), List.mem_of_getElem? (i := 1406) (by decide +kernel), List.mem_of_getElem? (i := 1407) (by decide +kernel)⟩
theorem lw_p52 : lw_okq (⟨"OwnChairModel", "isOwn", "(J)Z"⟩, 80) := ⟨⟨by decide +kernel, by decide +kernel⟩, List.mem_of_getElem? (i := 1137) (by decide +kernel), List.mem_of_getElem? (i := 1417) (by decide +kernel), List.mem_of_getElem? (i := 1418) (by decide +kernel)⟩
theorem lw_p53 : lw_okq (⟨"OwnChairModel", "statement", "()V"⟩, 80) := ⟨⟨by decide +kernel, by decide +kernel⟩, List.mem_of_getElem? (i := 1137) (by decide +kernel), List.mem_of_getElem? (i := 1445) (by decide +kernel), List.mem_of_getElem? (i := 1446) (by decide +kernel)⟩
theorem lw_p54 : lw_okq (⟨"OwnChairModel", "lex", "()V"⟩, 80) := ⟨⟨by decide +kernel, by decide +kernel⟩, List.mem_of_getElem? (i := 1137) (by decide +kernel), List.mem_of_getElem? (i := 1449) (by decide +kernel), List.mem_of_getElem? (i := 1450) (by decide +kernel)⟩
theorem lw_p55 : lw_okq (⟨"OwnChairModel", "blame", "(II)V"⟩, 80) := ⟨⟨by decide +kernel, by decide +kernel⟩, List.mem_of_getElem? (i := 1137) (by decide +kernel), List.mem_of_getElem? (i := 1453) (by decide +kernel), List.mem_of_getElem? (i := 1454) (by decide +kernel)⟩
theorem lw_p56 : lw_okq (⟨"OwnChairModel", "isWord", "(J)Z"⟩, 80) := ⟨⟨by decide +kernel, by decide +kernel⟩, List.mem_of_getElem? (i := 1137) (by decide +kernel), List.mem_of_getElem? (i := 1457) (by decide +kernel), List.mem_of_getElem? (i := 1458) (by decide +kernel)⟩
theorem lw_p57 : lw_okq (⟨"OwnChairModel", "rooming", "()V"⟩, 80) := ⟨⟨by decide +kernel, by decide +kernel⟩, List.mem_of_getElem? (i := 1137) (by decide +kernel), List.mem_of_getElem? (i := 1461) (by decide +kernel), List.mem_of_getElem? (i := 1462) (by decide +kernel)⟩
theorem lw_p58 : lw_okq (⟨"OwnChairModel", "counts", "(Z)Z"⟩, 80) := ⟨⟨by decide +kernel, by decide +kernel⟩, List.mem_of_getElem? (i := 1137) (by decide +kernel), List.mem_of_getElem? (i := 1465) (by decide +kernel), List.mem_of_getElem? (i := 1466) (by decide +kernel)⟩
theorem lw_p59 : lw_okq (⟨"OwnChairModel", "fresh", "()J"⟩, 80) := ⟨⟨by decide +kernel, by decide +kernel⟩, List.mem_of_getElem? (i := 1137) (by decide +kernel), List.mem_of_getElem? (i := 1469) (by decide +kernel), List.mem_of_getElem? (i := 1470) (by decide +kernel)⟩
theorem lw_p60 : lw_okq (⟨"OwnChairModel", "named", "(IJ)I"⟩, 80) := ⟨⟨by decide +kernel, by decide +kernel⟩, List.mem_of_getElem? (i := 1137) (by decide +kernel), List.mem_of_getElem? (i := 1473) (by decide +kernel), List.mem_of_getElem? (i := 1474) (by decide +kernel)⟩
theorem lw_p61 : lw_okq (⟨"OwnChairModel", "manyOf", "(II)I"⟩, 80) := ⟨⟨by decide +kernel, by decide +kernel⟩, List.mem_of_getElem? (i := 1137) (by decide +kernel), List.mem_of_getElem? (i := 1477) (by decide +kernel), List.mem_of_getElem? (i := 1478) (by decide +kernel)⟩
theorem lw_p62 : lw_okq (⟨"OwnChairModel", "nameOf", "(III)J"⟩, 80) := ⟨⟨by decide +kernel, by decide +kernel⟩, List.mem_of_getElem? (i := 1137) (by decide +kernel), List.mem_of_getElem? (i := 1481) (by decide +kernel), List.mem_of_getElem? (i := 1482) (by decide +kernel)⟩
theorem lw_p63 : lw_okq (⟨"OwnChairModel", "must", "(J)V"⟩, 80) := ⟨⟨by decide +kernel, by decide +kernel⟩, List.mem_of_getElem? (i := 1137) (by decide +kernel), List.mem_of_getElem? (i := 1485) (by decide +kernel), List.mem_of_getElem? (i := 1486) (by decide +kernel)⟩
def lw_privs_4 : List (MethodName × Nat) := [(⟨"OwnChair$Scene", "floorsHold", "(LOwnChair$Tape;)Z"⟩, 4), (⟨"OwnChairModel", "refuses", "(I)I"⟩, 80), (⟨"OwnChairModel", "put", "(I)V"⟩, 80), (⟨"OwnChairModel", "ahead", "()V"⟩, 80), (⟨"OwnChairModel", "isOwn", "(J)Z"⟩, 80), (⟨"OwnChairModel", "statement", "()V"⟩, 80), (⟨"OwnChairModel", "lex", "()V"⟩, 80), (⟨"OwnChairModel", "blame", "(II)V"⟩, 80), (⟨"OwnChairModel", "isWord", "(J)Z"⟩, 80), (⟨"OwnChairModel", "rooming", "()V"⟩, 80), (⟨"OwnChairModel", "counts", "(Z)Z"⟩, 80), (⟨"OwnChairModel", "fresh", "()J"⟩, 80), (⟨"OwnChairModel", "named", "(IJ)I"⟩, 80), (⟨"OwnChairModel", "manyOf", "(II)I"⟩, 80), (⟨"OwnChairModel", "nameOf", "(III)J"⟩, 80), (⟨"OwnChairModel", "must", "(J)V"⟩, 80)]
theorem lw_r4 : ∀ q ∈ lw_privs_4, lw_okq q := List.forall_mem_cons.mpr ⟨lw_p48, List.forall_mem_cons.mpr ⟨lw_p49, List.forall_mem_cons.mpr ⟨lw_p50, List.forall_mem_cons.mpr ⟨lw_p51, List.forall_mem_cons.mpr ⟨lw_p52, List.forall_mem_cons.mpr ⟨lw_p53, List.forall_mem_cons.mpr ⟨lw_p54, List.forall_mem_cons.mpr ⟨lw_p55, List.forall_mem_cons.mpr ⟨lw_p56, List.forall_mem_cons.mpr ⟨lw_p57, List.forall_mem_cons.mpr ⟨lw_p58, List.forall_mem_cons.mpr ⟨lw_p59, List.forall_mem_cons.mpr ⟨lw_p60, List.forall_mem_cons.mpr ⟨lw_p61, List.forall_mem_cons.mpr ⟨lw_p62, List.forall_mem_cons.mpr ⟨lw_p63, fun _ h => absurd h List.not_mem_nil⟩⟩⟩⟩⟩⟩⟩⟩⟩⟩⟩⟩⟩⟩⟩⟩
theorem lw_p64 : lw_okq (⟨"OwnChairModel", "number", "(II)I"⟩, 80) := ⟨⟨by decide +kernel, by decide +kernel⟩, List.mem_of_getElem? (i := 1137) (by decide +kernel), List.mem_of_getElem? (i := 1489) (by decide +kernel), List.mem_of_getElem? (i := 1490) (by decide +kernel)⟩
theorem lw_p65 : lw_okq (⟨"OwnChairModel", "waying", "()V"⟩, 80) := ⟨⟨by decide +kernel, by decide +kernel⟩, List.mem_of_getElem? (i := 1137) (by decide +kernel), List.mem_of_getElem? (i := 1496) (by decide +kernel), List.mem_of_getElem? (i := 1497) (by decide +kernel)⟩
theorem lw_p66 : lw_okq (⟨"OwnChairModel", "asked", "(I)I"⟩, 80) := ⟨⟨by decide +kernel, by decide +kernel⟩, List.mem_of_getElem? (i := 1137) (by decide +kernel), List.mem_of_getElem? (i := 1500) (by decide +kernel), List.mem_of_getElem? (i := 1501) (by decide +kernel)⟩
theorem lw_p67 : lw_okq (⟨"OwnChairModel", "looked", "(I)I"⟩, 80) := ⟨⟨by decide +kernel, by decide +kernel⟩, List.mem_of_getElem? (i := 1137) (by decide +kernel), List.mem_of_getElem? (i := 1504) (by decide +kernel), List.mem_of_getElem? (i := 1505) (by decide +kernel)⟩
theorem lw_p68 : lw_okq (⟨"OwnChairModel", "personing", "()V"⟩, 80) := ⟨⟨by decide +kernel, by decide +kernel⟩, List.mem_of_getElem? (i := 1137) (by decide +kernel), List.mem_of_getElem? (i := 1508) (by decide +kernel), List.mem_of_getElem? (i := 1509) (by decide +kernel)⟩
theorem lw_p69 : lw_okq (⟨"OwnChairModel", "toldIn", "(I)I"⟩, 80) := ⟨⟨by decide +kernel, by decide +kernel⟩, List.mem_of_getElem? (i := 1137) (by decide +kernel), List.mem_of_getElem? (i := 1512) (by decide +kernel), List.mem_of_getElem? (i := 1513) (by decide +kernel)⟩
theorem lw_p70 : lw_okq (⟨"OwnChairModel", "joining", "()V"⟩, 80) := ⟨⟨by decide +kernel, by decide +kernel⟩, List.mem_of_getElem? (i := 1137) (by decide +kernel), List.mem_of_getElem? (i := 1516) (by decide +kernel), List.mem_of_getElem? (i := 1517) (by decide +kernel)⟩
theorem lw_p71 : lw_okq (⟨"OwnChairModel", "unjoined", "(I)I"⟩, 80) := ⟨⟨by decide +kernel, by decide +kernel⟩, List.mem_of_getElem? (i := 1137) (by decide +kernel), List.mem_of_getElem? (i := 1520) (by decide +kernel), List.mem_of_getElem? (i := 1521) (by decide +kernel)⟩
theorem lw_p72 : lw_okq (⟨"OwnChairModel", "slowing", "()V"⟩, 80) := ⟨⟨by decide +kernel, by decide +kernel⟩, List.mem_of_getElem? (i := 1137) (by decide +kernel), List.mem_of_getElem? (i := 1524) (by decide +kernel), List.mem_of_getElem? (i := 1525) (by decide +kernel)⟩
theorem lw_p73 : lw_okq (⟨"OwnChairModel", "reads", "(Z)V"⟩, 80) := ⟨⟨by decide +kernel, by decide +kernel⟩, List.mem_of_getElem? (i := 1137) (by decide +kernel), List.mem_of_getElem? (i := 1528) (by decide +kernel), List.mem_of_getElem? (i := 1529) (by decide +kernel)⟩
theorem lw_p74 : lw_okq (⟨"OwnChairModel", "pushes", "(I)V"⟩, 80) := ⟨⟨by decide +kernel, by decide +kernel⟩, List.mem_of_getElem? (i := 1137) (by decide +kernel), List.mem_of_getElem? (i := 1532) (by decide +kernel), List.mem_of_getElem? (i := 1533) (by decide +kernel)⟩
theorem lw_p75 : lw_okq (⟨"OwnChairModel", "operand", "()Z"⟩, 80) := ⟨⟨by decide +kernel, by decide +kernel⟩, List.mem_of_getElem? (i := 1137) (by decide +kernel), List.mem_of_getElem? (i := 1536) (by decide +kernel), List.mem_of_getElem? (i := 1537) (by decide +kernel)⟩
theorem lw_p76 : lw_okq (⟨"OwnChairModel", "holdsBack", "(I)V"⟩, 80) := ⟨⟨by decide +kernel, by decide +kernel⟩, List.mem_of_getElem? (i := 1137) (by decide +kernel), List.mem_of_getElem? (i := 1543) (by decide +kernel), List.mem_of_getElem? (i := 1544) (by decide +kernel)⟩
theorem lw_p77 : lw_okq (⟨"OwnChairModel", "isSign", "(I)Z"⟩, 80) := ⟨⟨by decide +kernel, by decide +kernel⟩, List.mem_of_getElem? (i := 1137) (by decide +kernel), List.mem_of_getElem? (i := 1547) (by decide +kernel), List.mem_of_getElem? (i := 1548) (by decide +kernel)⟩
theorem lw_p78 : lw_okq (⟨"OwnChairModel", "opens", "(I)V"⟩, 80) := ⟨⟨by decide +kernel, by decide +kernel⟩, List.mem_of_getElem? (i := 1137) (by decide +kernel), List.mem_of_getElem? (i := 1551) (by decide +kernel), List.mem_of_getElem? (i := 1552) (by decide +kernel)⟩
theorem lw_p79 : lw_okq (⟨"OwnChairModel", "add", "(II)V"⟩, 80) := ⟨⟨by decide +kernel, by decide +kernel⟩, List.mem_of_getElem? (i := 1137) (by decide +kernel), List.mem_of_getElem? (i := 1555) (by decide +kernel), List.mem_of_getElem? (i := 1556) (by decide +kernel)⟩
def lw_privs_5 : List (MethodName × Nat) := [(⟨"OwnChairModel", "number", "(II)I"⟩, 80), (⟨"OwnChairModel", "waying", "()V"⟩, 80), (⟨"OwnChairModel", "asked", "(I)I"⟩, 80), (⟨"OwnChairModel", "looked", "(I)I"⟩, 80), (⟨"OwnChairModel", "personing", "()V"⟩, 80), (⟨"OwnChairModel", "toldIn", "(I)I"⟩, 80), (⟨"OwnChairModel", "joining", "()V"⟩, 80), (⟨"OwnChairModel", "unjoined", "(I)I"⟩, 80), (⟨"OwnChairModel", "slowing", "()V"⟩, 80), (⟨"OwnChairModel", "reads", "(Z)V"⟩, 80), (⟨"OwnChairModel", "pushes", "(I)V"⟩, 80), (⟨"OwnChairModel", "operand", "()Z"⟩, 80), (⟨"OwnChairModel", "holdsBack", "(I)V"⟩, 80), (⟨"OwnChairModel", "isSign", "(I)Z"⟩, 80), (⟨"OwnChairModel", "opens", "(I)V"⟩, 80), (⟨"OwnChairModel", "add", "(II)V"⟩, 80)]
theorem lw_r5 : ∀ q ∈ lw_privs_5, lw_okq q := List.forall_mem_cons.mpr ⟨lw_p64, List.forall_mem_cons.mpr ⟨lw_p65, List.forall_mem_cons.mpr ⟨lw_p66, List.forall_mem_cons.mpr ⟨lw_p67, List.forall_mem_cons.mpr ⟨lw_p68, List.forall_mem_cons.mpr ⟨lw_p69, List.forall_mem_cons.mpr ⟨lw_p70, List.forall_mem_cons.mpr ⟨lw_p71, List.forall_mem_cons.mpr ⟨lw_p72, List.forall_mem_cons.mpr ⟨lw_p73, List.forall_mem_cons.mpr ⟨lw_p74, List.forall_mem_cons.mpr ⟨lw_p75, List.forall_mem_cons.mpr ⟨lw_p76, List.forall_mem_cons.mpr ⟨lw_p77, List.forall_mem_cons.mpr ⟨lw_p78, List.forall_mem_cons.mpr ⟨lw_p79, fun _ h => absurd h List.not_mem_nil⟩⟩⟩⟩⟩⟩⟩⟩⟩⟩⟩⟩⟩⟩⟩⟩
theorem lw_p80 : lw_okq (⟨"OwnChairModel", "goesOn", "()Z"⟩, 80) := ⟨⟨by decide +kernel, by decide +kernel⟩, List.mem_of_getElem? (i := 1137) (by decide +kernel), List.mem_of_getElem? (i := 1559) (by decide +kernel), List.mem_of_getElem? (i := 1560) (by decide +kernel)⟩
theorem lw_p81 : lw_okq (⟨"OwnChairModel", "joins", "(I)V"⟩, 80) := ⟨⟨by decide +kernel, by decide +kernel⟩, List.mem_of_getElem? (i := 1137) (by decide +kernel), List.mem_of_getElem? (i := 1563) (by decide +kernel), List.mem_of_getElem? (i := 1564) (by decide +kernel)⟩
theorem lw_p82 : lw_okq (⟨"OwnChairModel", "standingSum", "()V"⟩, 80) := ⟨⟨by decide +kernel, by decide +kernel⟩, List.mem_of_getElem? (i := 1137) (by decide +kernel), List.mem_of_getElem? (i := 1570) (by decide +kernel), List.mem_of_getElem? (i := 1571) (by decide +kernel)⟩
theorem lw_p83 : lw_okq (⟨"OwnChairModel", "breaks", "()V"⟩, 80) := ⟨⟨by decide +kernel, by decide +kernel⟩, List.mem_of_getElem? (i := 1137) (by decide +kernel), List.mem_of_getElem? (i := 1574) (by decide +kernel), List.mem_of_getElem? (i := 1575) (by decide +kernel)⟩
theorem lw_p84 : lw_okq (⟨"OwnChairModel", "mending", "()V"⟩, 80) := ⟨⟨by decide +kernel, by decide +kernel⟩, List.mem_of_getElem? (i := 1137) (by decide +kernel), List.mem_of_getElem? (i := 1578) (by decide +kernel), List.mem_of_getElem? (i := 1579) (by decide +kernel)⟩
theorem lw_p85 : lw_okq (⟨"OwnChairModel", "finishes", "(I)V"⟩, 80) := ⟨⟨by decide +kernel, by decide +kernel⟩, List.mem_of_getElem? (i := 1137) (by decide +kernel), List.mem_of_getElem? (i := 1582) (by decide +kernel), List.mem_of_getElem? (i := 1583) (by decide +kernel)⟩
theorem lw_p86 : lw_okq (⟨"OwnChairModel", "must", "(I)V"⟩, 80) := ⟨⟨by decide +kernel, by decide +kernel⟩, List.mem_of_getElem? (i := 1137) (by decide +kernel), List.mem_of_getElem? (i := 1586) (by decide +kernel), List.mem_of_getElem? (i := 1587) (by decide +kernel)⟩
theorem lw_p87 : lw_okq (⟨"OwnChairModel", "begin", "()V"⟩, 80) := ⟨⟨by decide +kernel, by decide +kernel⟩, List.mem_of_getElem? (i := 1137) (by decide +kernel), List.mem_of_getElem? (i := 1590) (by decide +kernel), List.mem_of_getElem? (i := 1591) (by decide +kernel)⟩
theorem lw_p88 : lw_okq (⟨"OwnChairModel", "ring", "(I)I"⟩, 80) := ⟨⟨by decide +kernel, by decide +kernel⟩, List.mem_of_getElem? (i := 1137) (by decide +kernel), List.mem_of_getElem? (i := 1606) (by decide +kernel), List.mem_of_getElem? (i := 1607) (by decide +kernel)⟩
theorem lw_p89 : lw_okq (⟨"OwnChairModel", "copies", "(II)V"⟩, 80) := ⟨⟨by decide +kernel, by decide +kernel⟩, List.mem_of_getElem? (i := 1137) (by decide +kernel), List.mem_of_getElem? (i := 1610) (by decide +kernel), List.mem_of_getElem? (i := 1611) (by decide +kernel)⟩
theorem lw_p90 : lw_okq (⟨"OwnChairModel", "isSitting", "(I)Z"⟩, 80) := ⟨⟨by decide +kernel, by decide +kernel⟩, List.mem_of_getElem? (i := 1137) (by decide +kernel), List.mem_of_getElem? (i := 1618) (by decide +kernel), List.mem_of_getElem? (i := 1619) (by decide +kernel)⟩
theorem lw_p91 : lw_okq (⟨"OwnChairModel", "wouldSit", "(II)Z"⟩, 80) := ⟨⟨by decide +kernel, by decide +kernel⟩, List.mem_of_getElem? (i := 1137) (by decide +kernel), List.mem_of_getElem? (i := 1622) (by decide +kernel), List.mem_of_getElem? (i := 1623) (by decide +kernel)⟩
theorem lw_p92 : lw_okq (⟨"OwnChairModel", "joinedTo", "(I)I"⟩, 80) := ⟨⟨by decide +kernel, by decide +kernel⟩, List.mem_of_getElem? (i := 1137) (by decide +kernel), List.mem_of_getElem? (i := 1626) (by decide +kernel), List.mem_of_getElem? (i := 1627) (by decide +kernel)⟩
theorem lw_p93 : lw_okq (⟨"OwnChairModel", "isRoom", "(I)Z"⟩, 80) := ⟨⟨by decide +kernel, by decide +kernel⟩, List.mem_of_getElem? (i := 1137) (by decide +kernel), List.mem_of_getElem? (i := 1639) (by decide +kernel), List.mem_of_getElem? (i := 1640) (by decide +kernel)⟩
theorem lw_p94 : lw_okq (⟨"OwnChairModel", "wideIn", "(II)I"⟩, 80) := ⟨⟨by decide +kernel, by decide +kernel⟩, List.mem_of_getElem? (i := 1137) (by decide +kernel), List.mem_of_getElem? (i := 1643) (by decide +kernel), List.mem_of_getElem? (i := 1644) (by decide +kernel)⟩
theorem lw_p95 : lw_okq (⟨"OwnChairModel", "wideOf", "(I)I"⟩, 80) := ⟨⟨by decide +kernel, by decide +kernel⟩, List.mem_of_getElem? (i := 1137) (by decide +kernel), List.mem_of_getElem? (i := 1647) (by decide +kernel), List.mem_of_getElem? (i := 1648) (by decide +kernel)⟩
def lw_privs_6 : List (MethodName × Nat) := [(⟨"OwnChairModel", "goesOn", "()Z"⟩, 80), (⟨"OwnChairModel", "joins", "(I)V"⟩, 80), (⟨"OwnChairModel", "standingSum", "()V"⟩, 80), (⟨"OwnChairModel", "breaks", "()V"⟩, 80), (⟨"OwnChairModel", "mending", "()V"⟩, 80), (⟨"OwnChairModel", "finishes", "(I)V"⟩, 80), (⟨"OwnChairModel", "must", "(I)V"⟩, 80), (⟨"OwnChairModel", "begin", "()V"⟩, 80), (⟨"OwnChairModel", "ring", "(I)I"⟩, 80), (⟨"OwnChairModel", "copies", "(II)V"⟩, 80), (⟨"OwnChairModel", "isSitting", "(I)Z"⟩, 80), (⟨"OwnChairModel", "wouldSit", "(II)Z"⟩, 80), (⟨"OwnChairModel", "joinedTo", "(I)I"⟩, 80), (⟨"OwnChairModel", "isRoom", "(I)Z"⟩, 80), (⟨"OwnChairModel", "wideIn", "(II)I"⟩, 80), (⟨"OwnChairModel", "wideOf", "(I)I"⟩, 80)]
theorem lw_r6 : ∀ q ∈ lw_privs_6, lw_okq q := List.forall_mem_cons.mpr ⟨lw_p80, List.forall_mem_cons.mpr ⟨lw_p81, List.forall_mem_cons.mpr ⟨lw_p82, List.forall_mem_cons.mpr ⟨lw_p83, List.forall_mem_cons.mpr ⟨lw_p84, List.forall_mem_cons.mpr ⟨lw_p85, List.forall_mem_cons.mpr ⟨lw_p86, List.forall_mem_cons.mpr ⟨lw_p87, List.forall_mem_cons.mpr ⟨lw_p88, List.forall_mem_cons.mpr ⟨lw_p89, List.forall_mem_cons.mpr ⟨lw_p90, List.forall_mem_cons.mpr ⟨lw_p91, List.forall_mem_cons.mpr ⟨lw_p92, List.forall_mem_cons.mpr ⟨lw_p93, List.forall_mem_cons.mpr ⟨lw_p94, List.forall_mem_cons.mpr ⟨lw_p95, fun _ h => absurd h List.not_mem_nil⟩⟩⟩⟩⟩⟩⟩⟩⟩⟩⟩⟩⟩⟩⟩⟩
theorem lw_p96 : lw_okq (⟨"OwnChairModel", "wayOf", "(II)I"⟩, 80) := ⟨⟨by decide +kernel, by decide +kernel⟩, List.mem_of_getElem? (i := 1137) (by decide +kernel), List.mem_of_getElem? (i := 1655) (by decide +kernel), List.mem_of_getElem? (i := 1656) (by decide +kernel)⟩
theorem lw_p97 : lw_okq (⟨"OwnChairModel", "isPerson", "(I)Z"⟩, 80) := ⟨⟨by decide +kernel, by decide +kernel⟩, List.mem_of_getElem? (i := 1137) (by decide +kernel), List.mem_of_getElem? (i := 1663) (by decide +kernel), List.mem_of_getElem? (i := 1664) (by decide +kernel)⟩
theorem lw_p98 : lw_okq (⟨"OwnChairModel", "doorWide", "(I)I"⟩, 80) := ⟨⟨by decide +kernel, by decide +kernel⟩, List.mem_of_getElem? (i := 1137) (by decide +kernel), List.mem_of_getElem? (i := 1667) (by decide +kernel), List.mem_of_getElem? (i := 1668) (by decide +kernel)⟩
theorem lw_p99 : lw_okq (⟨"OwnChairModel", "isFitting", "(II)Z"⟩, 80) := ⟨⟨by decide +kernel, by decide +kernel⟩, List.mem_of_getElem? (i := 1137) (by decide +kernel), List.mem_of_getElem? (i := 1675) (by decide +kernel), List.mem_of_getElem? (i := 1676) (by decide +kernel)⟩
theorem lw_p100 : lw_okq (⟨"OwnChairModel", "isThrough", "(II)Z"⟩, 80) := ⟨⟨by decide +kernel, by decide +kernel⟩, List.mem_of_getElem? (i := 1137) (by decide +kernel), List.mem_of_getElem? (i := 1679) (by decide +kernel), List.mem_of_getElem? (i := 1680) (by decide +kernel)⟩
theorem lw_p101 : lw_okq (⟨"OwnChairModel", "canGo", "(III)Z"⟩, 80) := ⟨⟨by decide +kernel, by decide +kernel⟩, List.mem_of_getElem? (i := 1137) (by decide +kernel), List.mem_of_getElem? (i := 1687) (by decide +kernel), List.mem_of_getElem? (i := 1688) (by decide +kernel)⟩
theorem lw_p102 : lw_okq (⟨"OwnChairModel", "canTake", "(III)Z"⟩, 80) := ⟨⟨by decide +kernel, by decide +kernel⟩, List.mem_of_getElem? (i := 1137) (by decide +kernel), List.mem_of_getElem? (i := 1691) (by decide +kernel), List.mem_of_getElem? (i := 1692) (by decide +kernel)⟩
theorem lw_p103 : lw_okq (⟨"OwnChairModel", "minutesOf", "(III)I"⟩, 80) := ⟨⟨by decide +kernel, by decide +kernel⟩, List.mem_of_getElem? (i := 1137) (by decide +kernel), List.mem_of_getElem? (i := 1695) (by decide +kernel), List.mem_of_getElem? (i := 1696) (by decide +kernel)⟩
theorem lw_p104 : lw_okq (⟨"OwnChairModel", "carrying", "(III)I"⟩, 80) := ⟨⟨by decide +kernel, by decide +kernel⟩, List.mem_of_getElem? (i := 1137) (by decide +kernel), List.mem_of_getElem? (i := 1699) (by decide +kernel), List.mem_of_getElem? (i := 1700) (by decide +kernel)⟩
theorem lw_p105 : lw_okq (⟨"OwnChairModel", "reckons", "(II)J"⟩, 80) := ⟨⟨by decide +kernel, by decide +kernel⟩, List.mem_of_getElem? (i := 1137) (by decide +kernel), List.mem_of_getElem? (i := 1703) (by decide +kernel), List.mem_of_getElem? (i := 1704) (by decide +kernel)⟩
theorem lw_p106 : lw_okq (⟨"OwnChairModel", "part", "(II)J"⟩, 80) := ⟨⟨by decide +kernel, by decide +kernel⟩, List.mem_of_getElem? (i := 1137) (by decide +kernel), List.mem_of_getElem? (i := 1707) (by decide +kernel), List.mem_of_getElem? (i := 1708) (by decide +kernel)⟩
theorem lw_p107 : lw_okq (⟨"OwnChairModel", "keeps", "()V"⟩, 80) := ⟨⟨by decide +kernel, by decide +kernel⟩, List.mem_of_getElem? (i := 1137) (by decide +kernel), List.mem_of_getElem? (i := 1730) (by decide +kernel), List.mem_of_getElem? (i := 1731) (by decide +kernel)⟩
theorem lw_p108 : lw_okq (⟨"OwnChairModel", "goes", "(III)V"⟩, 80) := ⟨⟨by decide +kernel, by decide +kernel⟩, List.mem_of_getElem? (i := 1137) (by decide +kernel), List.mem_of_getElem? (i := 1734) (by decide +kernel), List.mem_of_getElem? (i := 1735) (by decide +kernel)⟩
theorem lw_p109 : lw_okq (⟨"OwnChairModel", "isLater", "(II)V"⟩, 80) := ⟨⟨by decide +kernel, by decide +kernel⟩, List.mem_of_getElem? (i := 1137) (by decide +kernel), List.mem_of_getElem? (i := 1738) (by decide +kernel), List.mem_of_getElem? (i := 1739) (by decide +kernel)⟩
theorem lw_p110 : lw_okq (⟨"OwnChairModel", "writesDown", "(IIII)V"⟩, 80) := ⟨⟨by decide +kernel, by decide +kernel⟩, List.mem_of_getElem? (i := 1137) (by decide +kernel), List.mem_of_getElem? (i := 1743) (by decide +kernel), List.mem_of_getElem? (i := 1744) (by decide +kernel)⟩
theorem lw_p111 : lw_okq (⟨"OwnChairModel", "draw", "(I)I"⟩, 80) := ⟨⟨by decide +kernel, by decide +kernel⟩, List.mem_of_getElem? (i := 1137) (by decide +kernel), List.mem_of_getElem? (i := 1747) (by decide +kernel), List.mem_of_getElem? (i := 1748) (by decide +kernel)⟩
def lw_privs_7 : List (MethodName × Nat) := [(⟨"OwnChairModel", "wayOf", "(II)I"⟩, 80), (⟨"OwnChairModel", "isPerson", "(I)Z"⟩, 80), (⟨"OwnChairModel", "doorWide", "(I)I"⟩, 80), (⟨"OwnChairModel", "isFitting", "(II)Z"⟩, 80), (⟨"OwnChairModel", "isThrough", "(II)Z"⟩, 80), (⟨"OwnChairModel", "canGo", "(III)Z"⟩, 80), (⟨"OwnChairModel", "canTake", "(III)Z"⟩, 80), (⟨"OwnChairModel", "minutesOf", "(III)I"⟩, 80), (⟨"OwnChairModel", "carrying", "(III)I"⟩, 80), (⟨"OwnChairModel", "reckons", "(II)J"⟩, 80), (⟨"OwnChairModel", "part", "(II)J"⟩, 80), (⟨"OwnChairModel", "keeps", "()V"⟩, 80), (⟨"OwnChairModel", "goes", "(III)V"⟩, 80), (⟨"OwnChairModel", "isLater", "(II)V"⟩, 80), (⟨"OwnChairModel", "writesDown", "(IIII)V"⟩, 80), (⟨"OwnChairModel", "draw", "(I)I"⟩, 80)]
theorem lw_r7 : ∀ q ∈ lw_privs_7, lw_okq q := List.forall_mem_cons.mpr ⟨lw_p96, List.forall_mem_cons.mpr ⟨lw_p97, List.forall_mem_cons.mpr ⟨lw_p98, List.forall_mem_cons.mpr ⟨lw_p99, List.forall_mem_cons.mpr ⟨lw_p100, List.forall_mem_cons.mpr ⟨lw_p101, List.forall_mem_cons.mpr ⟨lw_p102, List.forall_mem_cons.mpr ⟨lw_p103, List.forall_mem_cons.mpr ⟨lw_p104, List.forall_mem_cons.mpr ⟨lw_p105, List.forall_mem_cons.mpr ⟨lw_p106, List.forall_mem_cons.mpr ⟨lw_p107, List.forall_mem_cons.mpr ⟨lw_p108, List.forall_mem_cons.mpr ⟨lw_p109, List.forall_mem_cons.mpr ⟨lw_p110, List.forall_mem_cons.mpr ⟨lw_p111, fun _ h => absurd h List.not_mem_nil⟩⟩⟩⟩⟩⟩⟩⟩⟩⟩⟩⟩⟩⟩⟩⟩
theorem lw_p112 : lw_okq (⟨"OwnChairModel", "waits", "(II)V"⟩, 80) := ⟨⟨by decide +kernel, by decide +kernel⟩, List.mem_of_getElem? (i := 1137) (by decide +kernel), List.mem_of_getElem? (i := 1759) (by decide +kernel), List.mem_of_getElem? (i := 1760) (by decide +kernel)⟩
theorem lw_p113 : lw_okq (⟨"OwnChairModel", "aching", "(II)I"⟩, 80) := ⟨⟨by decide +kernel, by decide +kernel⟩, List.mem_of_getElem? (i := 1137) (by decide +kernel), List.mem_of_getElem? (i := 1763) (by decide +kernel), List.mem_of_getElem? (i := 1764) (by decide +kernel)⟩
theorem lw_p114 : lw_okq (⟨"OwnChairModel", "dayOf", "(I)Z"⟩, 80) := ⟨⟨by decide +kernel, by decide +kernel⟩, List.mem_of_getElem? (i := 1137) (by decide +kernel), List.mem_of_getElem? (i := 1775) (by decide +kernel), List.mem_of_getElem? (i := 1776) (by decide +kernel)⟩
theorem lw_p115 : lw_okq (⟨"OwnChairModel", "nthWay", "(II)I"⟩, 80) := ⟨⟨by decide +kernel, by decide +kernel⟩, List.mem_of_getElem? (i := 1137) (by decide +kernel), List.mem_of_getElem? (i := 1779) (by decide +kernel), List.mem_of_getElem? (i := 1780) (by decide +kernel)⟩
theorem lw_p116 : lw_okq (⟨"OwnChairModel", "routing", "(IIIIZ)I"⟩, 80) := ⟨⟨by decide +kernel, by decide +kernel⟩, List.mem_of_getElem? (i := 1137) (by decide +kernel), List.mem_of_getElem? (i := 1795) (by decide +kernel), List.mem_of_getElem? (i := 1796) (by decide +kernel)⟩
theorem lw_p117 : lw_okq (⟨"OwnChairModel", "steps", "(II)V"⟩, 80) := ⟨⟨by decide +kernel, by decide +kernel⟩, List.mem_of_getElem? (i := 1137) (by decide +kernel), List.mem_of_getElem? (i := 1799) (by decide +kernel), List.mem_of_getElem? (i := 1800) (by decide +kernel)⟩
theorem lw_p118 : lw_okq (⟨"OwnChairModel", "rests", "(I)V"⟩, 80) := ⟨⟨by decide +kernel, by decide +kernel⟩, List.mem_of_getElem? (i := 1137) (by decide +kernel), List.mem_of_getElem? (i := 1804) (by decide +kernel), List.mem_of_getElem? (i := 1805) (by decide +kernel)⟩
theorem lw_p119 : lw_okq (⟨"OwnChairModel", "nextOf", "(I)I"⟩, 80) := ⟨⟨by decide +kernel, by decide +kernel⟩, List.mem_of_getElem? (i := 1137) (by decide +kernel), List.mem_of_getElem? (i := 1808) (by decide +kernel), List.mem_of_getElem? (i := 1809) (by decide +kernel)⟩
theorem lw_p120 : lw_okq (⟨"OwnChairModel", "isErrand", "(II)Z"⟩, 80) := ⟨⟨by decide +kernel, by decide +kernel⟩, List.mem_of_getElem? (i := 1137) (by decide +kernel), List.mem_of_getElem? (i := 1820) (by decide +kernel), List.mem_of_getElem? (i := 1821) (by decide +kernel)⟩
theorem lw_p121 : lw_okq (⟨"OwnChairModel", "errandBy", "(III)I"⟩, 80) := ⟨⟨by decide +kernel, by decide +kernel⟩, List.mem_of_getElem? (i := 1137) (by decide +kernel), List.mem_of_getElem? (i := 1824) (by decide +kernel), List.mem_of_getElem? (i := 1825) (by decide +kernel)⟩
theorem lw_p122 : lw_okq (⟨"OwnChairModel", "canSit", "(II)Z"⟩, 80) := ⟨⟨by decide +kernel, by decide +kernel⟩, List.mem_of_getElem? (i := 1137) (by decide +kernel), List.mem_of_getElem? (i := 1842) (by decide +kernel), List.mem_of_getElem? (i := 1843) (by decide +kernel)⟩
theorem lw_p123 : lw_okq (⟨"OwnChairModel", "isStanding", "(I)Z"⟩, 80) := ⟨⟨by decide +kernel, by decide +kernel⟩, List.mem_of_getElem? (i := 1137) (by decide +kernel), List.mem_of_getElem? (i := 1850) (by decide +kernel), List.mem_of_getElem? (i := 1851) (by decide +kernel)⟩
theorem lw_p124 : lw_okq (⟨"OwnChairModel", "waysWith", "(II)I"⟩, 80) := ⟨⟨by decide +kernel, by decide +kernel⟩, List.mem_of_getElem? (i := 1137) (by decide +kernel), List.mem_of_getElem? (i := 1854) (by decide +kernel), List.mem_of_getElem? (i := 1855) (by decide +kernel)⟩
theorem lw_p125 : lw_okq (⟨"OwnChairModel", "rowOf", "(I)I"⟩, 80) := ⟨⟨by decide +kernel, by decide +kernel⟩, List.mem_of_getElem? (i := 1137) (by decide +kernel), List.mem_of_getElem? (i := 1858) (by decide +kernel), List.mem_of_getElem? (i := 1859) (by decide +kernel)⟩
theorem lw_p126 : lw_okq (⟨"OwnChairModel", "writes", "(I)V"⟩, 80) := ⟨⟨by decide +kernel, by decide +kernel⟩, List.mem_of_getElem? (i := 1137) (by decide +kernel), List.mem_of_getElem? (i := 1870) (by decide +kernel), List.mem_of_getElem? (i := 1871) (by decide +kernel)⟩
theorem lw_p127 : lw_okq (⟨"OwnChairModel", "writesThree", "(I)V"⟩, 80) := ⟨⟨by decide +kernel, by decide +kernel⟩, List.mem_of_getElem? (i := 1137) (by decide +kernel), List.mem_of_getElem? (i := 1874) (by decide +kernel), List.mem_of_getElem? (i := 1875) (by decide +kernel)⟩
def lw_privs_8 : List (MethodName × Nat) := [(⟨"OwnChairModel", "waits", "(II)V"⟩, 80), (⟨"OwnChairModel", "aching", "(II)I"⟩, 80), (⟨"OwnChairModel", "dayOf", "(I)Z"⟩, 80), (⟨"OwnChairModel", "nthWay", "(II)I"⟩, 80), (⟨"OwnChairModel", "routing", "(IIIIZ)I"⟩, 80), (⟨"OwnChairModel", "steps", "(II)V"⟩, 80), (⟨"OwnChairModel", "rests", "(I)V"⟩, 80), (⟨"OwnChairModel", "nextOf", "(I)I"⟩, 80), (⟨"OwnChairModel", "isErrand", "(II)Z"⟩, 80), (⟨"OwnChairModel", "errandBy", "(III)I"⟩, 80), (⟨"OwnChairModel", "canSit", "(II)Z"⟩, 80), (⟨"OwnChairModel", "isStanding", "(I)Z"⟩, 80), (⟨"OwnChairModel", "waysWith", "(II)I"⟩, 80), (⟨"OwnChairModel", "rowOf", "(I)I"⟩, 80), (⟨"OwnChairModel", "writes", "(I)V"⟩, 80), (⟨"OwnChairModel", "writesThree", "(I)V"⟩, 80)]
theorem lw_r8 : ∀ q ∈ lw_privs_8, lw_okq q := List.forall_mem_cons.mpr ⟨lw_p112, List.forall_mem_cons.mpr ⟨lw_p113, List.forall_mem_cons.mpr ⟨lw_p114, List.forall_mem_cons.mpr ⟨lw_p115, List.forall_mem_cons.mpr ⟨lw_p116, List.forall_mem_cons.mpr ⟨lw_p117, List.forall_mem_cons.mpr ⟨lw_p118, List.forall_mem_cons.mpr ⟨lw_p119, List.forall_mem_cons.mpr ⟨lw_p120, List.forall_mem_cons.mpr ⟨lw_p121, List.forall_mem_cons.mpr ⟨lw_p122, List.forall_mem_cons.mpr ⟨lw_p123, List.forall_mem_cons.mpr ⟨lw_p124, List.forall_mem_cons.mpr ⟨lw_p125, List.forall_mem_cons.mpr ⟨lw_p126, List.forall_mem_cons.mpr ⟨lw_p127, fun _ h => absurd h List.not_mem_nil⟩⟩⟩⟩⟩⟩⟩⟩⟩⟩⟩⟩⟩⟩⟩⟩
theorem lw_p128 : lw_okq (⟨"OwnChairModel", "comesOn", "(I)Z"⟩, 80) := ⟨⟨by decide +kernel, by decide +kernel⟩, List.mem_of_getElem? (i := 1137) (by decide +kernel), List.mem_of_getElem? (i := 1886) (by decide +kernel), List.mem_of_getElem? (i := 1887) (by decide +kernel)⟩
theorem lw_p129 : lw_okq (⟨"OwnChairModel", "personOn", "(II)Z"⟩, 80) := ⟨⟨by decide +kernel, by decide +kernel⟩, List.mem_of_getElem? (i := 1137) (by decide +kernel), List.mem_of_getElem? (i := 1890) (by decide +kernel), List.mem_of_getElem? (i := 1891) (by decide +kernel)⟩
theorem lw_p130 : lw_okq (⟨"OwnChairModel", "threeBytes", "(I)I"⟩, 80) := ⟨⟨by decide +kernel, by decide +kernel⟩, List.mem_of_getElem? (i := 1137) (by decide +kernel), List.mem_of_getElem? (i := 1894) (by decide +kernel), List.mem_of_getElem? (i := 1895) (by decide +kernel)⟩
def lw_privs_9 : List (MethodName × Nat) := [(⟨"OwnChairModel", "comesOn", "(I)Z"⟩, 80), (⟨"OwnChairModel", "personOn", "(II)Z"⟩, 80), (⟨"OwnChairModel", "threeBytes", "(I)I"⟩, 80)]
theorem lw_r9 : ∀ q ∈ lw_privs_9, lw_okq q := List.forall_mem_cons.mpr ⟨lw_p128, List.forall_mem_cons.mpr ⟨lw_p129, List.forall_mem_cons.mpr ⟨lw_p130, fun _ h => absurd h List.not_mem_nil⟩⟩⟩
def lw_privs : List (MethodName × Nat) := lw_privs_1 ++ (lw_privs_2 ++ (lw_privs_3 ++ (lw_privs_4 ++ (lw_privs_5 ++ (lw_privs_6 ++ (lw_privs_7 ++ (lw_privs_8 ++ (lw_privs_9))))))))
def lw_tbl : List Cond := k2_sels lw_privs ++ tables_1
theorem lw_privs_ok : ∀ q ∈ lw_privs, lw_okq q := by
  show ∀ q ∈ lw_privs_1 ++ (lw_privs_2 ++ (lw_privs_3 ++ (lw_privs_4 ++ (lw_privs_5 ++ (lw_privs_6 ++ (lw_privs_7 ++ (lw_privs_8 ++ (lw_privs_9)))))))), lw_okq q
  exact List.forall_mem_append.mpr ⟨lw_r1, List.forall_mem_append.mpr ⟨lw_r2, List.forall_mem_append.mpr ⟨lw_r3, List.forall_mem_append.mpr ⟨lw_r4, List.forall_mem_append.mpr ⟨lw_r5, List.forall_mem_append.mpr ⟨lw_r6, List.forall_mem_append.mpr ⟨lw_r7, List.forall_mem_append.mpr ⟨lw_r8, lw_r9⟩⟩⟩⟩⟩⟩⟩⟩
end
section
/-! An executor of bytecode over abstract values. A value: tag (0 int, 1 long, 2 null, 3 a cell by its number, 4 the script), a symbol or none, a number. -/
abbrev xV : Type := Nat × Option Nat × Int
/-- an array: element type (0 int, 1 long, 2 boolean), length, bounds of the places that aren't listed, listed places -/
abbrev xA : Type := Nat × Nat × Int × Int × List (Nat × xV)
abbrev xC : Type := xA ⊕ (Nat × List xV)
abbrev xE : Type := List (Int × Int)
/-- a frame: method, pc, locals, stack, cells and slots used -/
abbrev xF : Type := Nat × Nat × List (Nat × xV) × List xV × Nat × Nat
abbrev xS : Type := List xF × List xC × xE
def x_ext {α : Type} (a b : List α) : Prop := ∃ t, b = a ++ t
theorem x_ext.rf {α : Type} (a : List α) : x_ext a a := ⟨[], by simp⟩
theorem x_ext.tr {α : Type} {a b c : List α} (h : x_ext a b) (g : x_ext b c) : x_ext a c := by
  obtain ⟨t, rfl⟩ := h
  obtain ⟨u, rfl⟩ := g
  exact ⟨t ++ u, by rw [List.append_assoc]⟩
theorem x_ext.get {α : Type} {a b : List α} (h : x_ext a b) {i : Nat} {q : α} (e : a[i]? = some q) : b[i]? = some q := by
  obtain ⟨t, rfl⟩ := h
  rw [List.getElem?_append_left (List.getElem?_eq_some_iff.mp e).1]
  exact e
theorem x_ext.app {α : Type} (a t : List α) : x_ext a (a ++ t) := ⟨t, rfl⟩
def x_ev (ρ : List Int) (b : Option Nat) (c r : Int) : Prop := match b with
  | none => r = c
  | some i => ∃ q, ρ[i]? = some q ∧ r = q + c
theorem x_ev.mono {ρ ρ' : List Int} {b : Option Nat} {c r : Int} (h : x_ext ρ ρ') (g : x_ev ρ b c r) : x_ev ρ' b c r := by
  cases b with
  | none => exact g
  | some i =>
    obtain ⟨q, h1, h2⟩ := g
    exact ⟨q, h.get h1, h2⟩
def x_val (ρ : List Int) (ad : List Nat) (sc : Nat) (v : xV) (x : Value) : Prop := match v.1 with
  | 0 => ∃ n : Int32, x = .int n ∧ x_ev ρ v.2.1 v.2.2 n.toInt
  | 1 => ∃ n : Int64, x = .long n ∧ x_ev ρ v.2.1 v.2.2 n.toInt
  | 2 => x = .null
  | 3 => ∃ a, x = .ref a ∧ ad[v.2.2.toNat]? = some a
  | _ => x = .ref sc
theorem x_val.mono {ρ ρ' : List Int} {ad ad' : List Nat} {sc : Nat} {v : xV} {x : Value} (h1 : x_ext ρ ρ') (h2 : x_ext ad ad') (h : x_val ρ ad sc v x) : x_val ρ' ad' sc v x := by
  obtain ⟨t, b, c⟩ := v
  match t, h with
  | 0, ⟨n, e, g⟩ => exact ⟨n, e, g.mono h1⟩
  | 1, ⟨n, e, g⟩ => exact ⟨n, e, g.mono h1⟩
  | 2, h => exact h
  | 3, ⟨a, e, g⟩ => exact ⟨a, e, h2.get g⟩
  | _ + 4, h => exact h
def x_vals (ρ : List Int) (ad : List Nat) (sc : Nat) : List xV → List Value → Prop
  | [], [] => True
  | v :: vs, x :: xs => x_val ρ ad sc v x ∧ x_vals ρ ad sc vs xs
  | _, _ => False
theorem x_vals.mono {ρ ρ' : List Int} {ad ad' : List Nat} {sc : Nat} (h1 : x_ext ρ ρ') (h2 : x_ext ad ad') : ∀ {vs : List xV} {xs : List Value}, x_vals ρ ad sc vs xs → x_vals ρ' ad' sc vs xs
  | [], [], _ => trivial
  | _ :: _, _ :: _, h => ⟨h.1.mono h1 h2, x_vals.mono h1 h2 h.2⟩
  | [], _ :: _, h => h.elim
  | _ :: _, [], h => h.elim
theorem x_vals.len {ρ : List Int} {ad : List Nat} {sc : Nat} : ∀ {vs : List xV} {xs : List Value}, x_vals ρ ad sc vs xs → vs.length = xs.length
  | [], [], _ => rfl
  | _ :: _, _ :: _, h => by simp [x_vals.len h.2]
  | [], _ :: _, h => h.elim
  | _ :: _, [], h => h.elim
theorem x_vals.nil {ρ : List Int} {ad : List Nat} {sc : Nat} {xs : List Value} (h : x_vals ρ ad sc [] xs) : xs = [] := by
  cases xs with
  | nil => rfl
  | cons _ _ => exact h.elim
theorem x_vals.cons {ρ : List Int} {ad : List Nat} {sc : Nat} {v : xV} {vs : List xV} {xs : List Value} (h : x_vals ρ ad sc (v :: vs) xs) : ∃ x ys, xs = x :: ys ∧ x_val ρ ad sc v x ∧ x_vals ρ ad sc vs ys := by
  cases xs with
  | nil => exact h.elim
  | cons x ys => exact ⟨x, ys, rfl, h.1, h.2⟩
theorem x_vals.get {ρ : List Int} {ad : List Nat} {sc : Nat} : ∀ {vs : List xV} {xs : List Value}, x_vals ρ ad sc vs xs → ∀ {k : Nat} {v : xV}, vs[k]? = some v → ∃ x, xs[k]? = some x ∧ x_val ρ ad sc v x
  | [], [], _, k, v, e => by simp at e
  | a :: vs, b :: xs, h, k, v, e => by
    cases k with
    | zero => simp at e; subst e; exact ⟨b, by simp, h.1⟩
    | succ k =>
      simp at e
      obtain ⟨x, h1, h2⟩ := x_vals.get h.2 e
      exact ⟨x, by simpa using h1, h2⟩
  | [], _ :: _, h, _, _, _ => h.elim
  | _ :: _, [], h, _, _, _ => h.elim
theorem x_vals.set {ρ : List Int} {ad : List Nat} {sc : Nat} : ∀ {vs : List xV} {xs : List Value}, x_vals ρ ad sc vs xs → ∀ {k : Nat} {v : xV} {x : Value}, x_val ρ ad sc v x → x_vals ρ ad sc (vs.set k v) (xs.set k x)
  | [], [], _, k, v, x, _ => by simp [x_vals]
  | a :: vs, b :: xs, h, k, v, x, g => by
    cases k with
    | zero => exact ⟨g, h.2⟩
    | succ k => exact ⟨h.1, x_vals.set h.2 g⟩
  | [], _ :: _, h, _, _, _, _ => h.elim
  | _ :: _, [], h, _, _, _, _ => h.elim
theorem x_vals.app {ρ : List Int} {ad : List Nat} {sc : Nat} : ∀ {vs ws : List xV} {xs ys : List Value}, x_vals ρ ad sc vs xs → x_vals ρ ad sc ws ys → x_vals ρ ad sc (vs ++ ws) (xs ++ ys)
  | [], _, [], _, _, g => g
  | _ :: _, _, _ :: _, _, h, g => ⟨h.1, x_vals.app h.2 g⟩
  | [], _, _ :: _, _, h, _ => h.elim
  | _ :: _, _, [], _, h, _ => h.elim
theorem x_vals.rev {ρ : List Int} {ad : List Nat} {sc : Nat} : ∀ {vs : List xV} {xs : List Value}, x_vals ρ ad sc vs xs → x_vals ρ ad sc vs.reverse xs.reverse
  | [], [], _ => trivial
  | v :: vs, x :: xs, h => by
    rw [List.reverse_cons, List.reverse_cons]
    exact x_vals.app (x_vals.rev h.2) ⟨h.1, trivial⟩
  | [], _ :: _, h => h.elim
  | _ :: _, [], h => h.elim
theorem x_vals.take {ρ : List Int} {ad : List Nat} {sc : Nat} : ∀ {vs : List xV} {xs : List Value} (n : Nat), x_vals ρ ad sc vs xs → x_vals ρ ad sc (vs.take n) (xs.take n)
  | _, _, 0, _ => trivial
  | [], [], _ + 1, _ => trivial
  | _ :: _, _ :: _, n + 1, h => ⟨h.1, x_vals.take n h.2⟩
  | [], _ :: _, _ + 1, h => h.elim
  | _ :: _, [], _ + 1, h => h.elim
theorem x_vals.drop {ρ : List Int} {ad : List Nat} {sc : Nat} : ∀ {vs : List xV} {xs : List Value} (n : Nat), x_vals ρ ad sc vs xs → x_vals ρ ad sc (vs.drop n) (xs.drop n)
  | _, _, 0, h => h
  | [], [], _ + 1, _ => trivial
  | _ :: _, _ :: _, n + 1, h => x_vals.drop n h.2
  | [], _ :: _, _ + 1, h => h.elim
  | _ :: _, [], _ + 1, h => h.elim
/-- category by tag -/
def x_cat (v : xV) : Nat := if v.1 = 1 then 2 else 1
theorem x_val.cat {ρ : List Int} {ad : List Nat} {sc : Nat} {v : xV} {x : Value} (h : x_val ρ ad sc v x) : x.category = x_cat v := by
  obtain ⟨t, b, c⟩ := v
  match t, h with
  | 0, ⟨n, e, g⟩ => subst e; rfl
  | 1, ⟨n, e, g⟩ => subst e; rfl
  | 2, h => cases h; rfl
  | 3, ⟨a, e, g⟩ => subst e; rfl
  | t + 4, h =>
    cases h
    show 1 = x_cat (t + 4, b, c)
    have : ¬ (t + 4 = 1) := by omega
    simp [x_cat, this]
/-- locals -/
def x_locs (ρ : List Int) (ad : List Nat) (sc : Nat) : List (Nat × xV) → List (Nat × Value) → Prop
  | [], [] => True
  | v :: vs, x :: xs => v.1 = x.1 ∧ x_val ρ ad sc v.2 x.2 ∧ x_locs ρ ad sc vs xs
  | _, _ => False
theorem x_locs.mono {ρ ρ' : List Int} {ad ad' : List Nat} {sc : Nat} (h1 : x_ext ρ ρ') (h2 : x_ext ad ad') : ∀ {vs : List (Nat × xV)} {xs : List (Nat × Value)}, x_locs ρ ad sc vs xs → x_locs ρ' ad' sc vs xs
  | [], [], _ => trivial
  | _ :: _, _ :: _, h => ⟨h.1, h.2.1.mono h1 h2, x_locs.mono h1 h2 h.2.2⟩
  | [], _ :: _, h => h.elim
  | _ :: _, [], h => h.elim
def x_find : List (Nat × xV) → Nat → Option xV
  | [], _ => none
  | q :: l, i => if q.1 = i then some q.2 else x_find l i
theorem x_locs.find {ρ : List Int} {ad : List Nat} {sc : Nat} {i : Nat} {v : xV} : ∀ {vs : List (Nat × xV)} {xs : List (Nat × Value)}, x_locs ρ ad sc vs xs → x_find vs i = some v → ∃ (x : Value) (k : Nat), xs[k]? = some (i, x) ∧ x_val ρ ad sc v x
  | [], [], _, e => by simp [x_find] at e
  | q :: vs, y :: xs, h, e => by
    unfold x_find at e
    by_cases hq : q.1 = i
    · rw [if_pos hq] at e
      obtain ⟨a, b⟩ := y
      have h1 : q.1 = a := h.1
      cases e
      exact ⟨b, 0, by simp [← h1, hq], h.2.1⟩
    · rw [if_neg hq] at e
      obtain ⟨x, k, g1, g2⟩ := x_locs.find h.2.2 e
      exact ⟨x, k + 1, by simpa using g1, g2⟩
  | [], _ :: _, h, _ => h.elim
  | _ :: _, [], h, _ => h.elim
def x_put1 (l : List (Nat × xV)) (i : Nat) (v : xV) : List (Nat × xV) := (i, v) :: l.filter (fun q => !(q.1 == i) && !(q.1 + 1 == i && x_cat q.2 == 2))
def x_put2 (l : List (Nat × xV)) (i : Nat) (v : xV) : List (Nat × xV) := (i, v) :: l.filter (fun q => !(q.1 == i) && (!(q.1 == i + 1) && !(q.1 + 1 == i && x_cat q.2 == 2)))
theorem x_locs.filter {ρ : List Int} {ad : List Nat} {sc : Nat} (F : Nat → Nat → Bool) : ∀ {vs : List (Nat × xV)} {xs : List (Nat × Value)}, x_locs ρ ad sc vs xs → x_locs ρ ad sc (vs.filter (fun q => F q.1 (x_cat q.2))) (xs.filter (fun q => F q.1 q.2.category))
  | [], [], _ => trivial
  | q :: vs, y :: xs, h => by
    obtain ⟨a, v⟩ := q
    obtain ⟨b, x⟩ := y
    have h1 : a = b := h.1
    subst h1
    have hc : x.category = x_cat v := h.2.1.cat
    have ih := x_locs.filter F h.2.2
    by_cases hF : F a (x_cat v) = true
    · rw [List.filter_cons_of_pos (by simpa using hF), List.filter_cons_of_pos (by simpa [hc] using hF)]
      exact ⟨rfl, h.2.1, ih⟩
    · rw [List.filter_cons_of_neg (by simpa using hF), List.filter_cons_of_neg (by simpa [hc] using hF)]
      exact ih
  | [], _ :: _, h => h.elim
  | _ :: _, [], h => h.elim
theorem x_locs.put1 {ρ : List Int} {ad : List Nat} {sc : Nat} {vs : List (Nat × xV)} {xs : List (Nat × Value)} {i : Nat} {v : xV} {x : Value} (h : x_locs ρ ad sc vs xs) (g : x_val ρ ad sc v x) :
    x_locs ρ ad sc (x_put1 vs i v) ((i, x) :: xs.filter (fun q => !(q.1 == i) && !(q.1 + 1 == i && q.2.category == 2))) :=
  ⟨rfl, g, x_locs.filter (fun a c => !(a == i) && !(a + 1 == i && c == 2)) h⟩
theorem x_locs.put2 {ρ : List Int} {ad : List Nat} {sc : Nat} {vs : List (Nat × xV)} {xs : List (Nat × Value)} {i : Nat} {v : xV} {x : Value} (h : x_locs ρ ad sc vs xs) (g : x_val ρ ad sc v x) :
    x_locs ρ ad sc (x_put2 vs i v) ((i, x) :: xs.filter (fun q => !(q.1 == i) && (!(q.1 == i + 1) && !(q.1 + 1 == i && q.2.category == 2)))) :=
  ⟨rfl, g, x_locs.filter (fun a c => !(a == i) && (!(a == i + 1) && !(a + 1 == i && c == 2))) h⟩
/-- the locals with which a method begins -/
def x_args : Nat → List xV → List (Nat × xV)
  | _, [] => []
  | i, v :: vs => (i, v) :: x_args (if x_cat v = 2 then i + 2 else i + 1) vs
theorem x_vals.args {ρ : List Int} {ad : List Nat} {sc : Nat} : ∀ {vs : List xV} {xs : List Value} (i : Nat), x_vals ρ ad sc vs xs → x_locs ρ ad sc (x_args i vs) (lv_args i xs)
  | [], [], _, _ => trivial
  | v :: vs, x :: xs, i, h => by
    have hc : x.category = x_cat v := h.1.cat
    refine ⟨rfl, h.1, ?_⟩
    show x_locs ρ ad sc (x_args (if x_cat v = 2 then i + 2 else i + 1) vs) (lv_args (if x.category = 2 then i + 2 else i + 1) xs)
    rw [hc]
    exact x_vals.args _ h.2
  | [], _ :: _, _, h => h.elim
  | _ :: _, [], _, h => h.elim
/-- symbols and their bounds -/
def x_env (ρ : List Int) (E : xE) : Prop := ρ.length = E.length ∧ ∀ (i : Nat) (q : Int × Int) (r : Int), E[i]? = some q → ρ[i]? = some r → q.1 ≤ r ∧ r ≤ q.2
def x_iv (E : xE) (v : xV) : Int × Int := match v.2.1 with
  | none => (v.2.2, v.2.2)
  | some i => match E[i]? with
    | some q => (q.1 + v.2.2, q.2 + v.2.2)
    | none => (v.2.2, v.2.2)
theorem x_iv_ok {ρ : List Int} {E : xE} (h : x_env ρ E) {v : xV} {r : Int} (g : x_ev ρ v.2.1 v.2.2 r) : (x_iv E v).1 ≤ r ∧ r ≤ (x_iv E v).2 := by
  obtain ⟨t, b, c⟩ := v
  cases b with
  | none => have g : r = c := g; subst g; exact ⟨Int.le_refl _, Int.le_refl _⟩
  | some i =>
    obtain ⟨q, h1, h2⟩ := g
    have hl : i < E.length := by rw [← h.1]; exact (List.getElem?_eq_some_iff.mp h1).1
    have he : E[i]? = some E[i] := List.getElem?_eq_getElem hl
    have hb := h.2 i _ q he h1
    simp only [x_iv, he]
    have h2 : r = q + c := h2
    omega
def x_cap (E : xE) (v : xV) (lo hi : Int) : xE := match v.2.1 with
  | none => E
  | some i => match E[i]? with
    | some q => E.set i (max q.1 (lo - v.2.2), min q.2 (hi - v.2.2))
    | none => E
theorem x_cap_ok {ρ : List Int} {E : xE} (h : x_env ρ E) {v : xV} {r lo hi : Int} (g : x_ev ρ v.2.1 v.2.2 r) (h1 : lo ≤ r) (h2 : r ≤ hi) : x_env ρ (x_cap E v lo hi) := by
  obtain ⟨t, b, c⟩ := v
  cases b with
  | none => exact h
  | some i =>
    obtain ⟨q, g1, g2⟩ := g
    have g2 : r = q + c := g2
    have hl : i < E.length := by rw [← h.1]; exact (List.getElem?_eq_some_iff.mp g1).1
    have he : E[i]? = some E[i] := List.getElem?_eq_getElem hl
    simp only [x_cap, he]
    refine ⟨by rw [List.length_set]; exact h.1, fun j q' r' e1 e2 => ?_⟩
    by_cases hj : i = j
    · subst hj
      rw [List.getElem?_set_self hl] at e1
      cases e1
      have hb := h.2 i _ r' he e2
      have e3 : q = r' := by rw [g1] at e2; exact Option.some.inj e2
      refine ⟨?_, ?_⟩
      · show max _ _ ≤ r'
        omega
      · show r' ≤ min _ _
        omega
    · rw [List.getElem?_set_ne hj] at e1
      exact h.2 j q' r' e1 e2
/-- a new symbol -/
theorem x_env.new {ρ : List Int} {E : xE} (h : x_env ρ E) {r lo hi : Int} (h1 : lo ≤ r) (h2 : r ≤ hi) : x_env (ρ ++ [r]) (E ++ [(lo, hi)]) := by
  refine ⟨by simp [h.1], fun i q r' e1 e2 => ?_⟩
  by_cases hi' : i < E.length
  · rw [List.getElem?_append_left hi'] at e1
    rw [List.getElem?_append_left (by rw [h.1]; exact hi')] at e2
    exact h.2 i q r' e1 e2
  · rw [List.getElem?_append_right (by omega)] at e1
    rw [List.getElem?_append_right (by rw [h.1]; omega)] at e2
    have hz : i - E.length < 1 := (List.getElem?_eq_some_iff.mp e1).1
    have e0 : i - E.length = 0 := by omega
    rw [e0] at e1
    rw [h.1, e0] at e2
    cases e1
    cases e2
    exact ⟨h1, h2⟩
theorem x_ev.new {ρ : List Int} {E : xE} (h : x_env ρ E) (r : Int) : x_ev (ρ ++ [r]) (some E.length) 0 r := by
  refine ⟨r, ?_, by omega⟩
  rw [← h.1, List.getElem?_append_right (Nat.le_refl _)]
  simp
theorem x_i32 (n : Int32) : -2147483648 ≤ n.toInt ∧ n.toInt ≤ 2147483647 := by
  have h1 := Int32.le_toInt n
  have h2 := Int32.toInt_lt n
  omega
theorem x_i64 (n : Int64) : -9223372036854775808 ≤ n.toInt ∧ n.toInt ≤ 9223372036854775807 := by
  have h1 := Int64.le_toInt n
  have h2 := Int64.toInt_lt n
  omega
end
section
/-! the executor -/
abbrev xP : Type := (Nat → Nat → Option (Instr × Nat)) × (Nat → Nat → Nat × Nat × Int) × (Nat → Nat × Nat × Nat × Nat × Nat) × (Nat → List Nat) × (Nat → MethodName) × (Nat → ByteArray) × (Nat → Option FieldType)
def x_code (P : xP) : Nat → Nat → Option (Instr × Nat) := P.1
def x_pool (P : xP) : Nat → Nat → Nat × Nat × Int := P.2.1
def x_maxL (P : xP) (m : Nat) : Nat := (P.2.2.1 m).1
def x_retk (P : xP) (m : Nat) : Nat := (P.2.2.1 m).2.1
def x_mc (P : xP) (m : Nat) : Nat := (P.2.2.1 m).2.2.1
def x_ms (P : xP) (m : Nat) : Nat := (P.2.2.1 m).2.2.2.1
def x_mci (P : xP) (m : Nat) : Nat := (P.2.2.1 m).2.2.2.2
def x_cls (P : xP) : Nat → List Nat := P.2.2.2.1
def x_nm (P : xP) : Nat → MethodName := P.2.2.2.2.1
def x_by (P : xP) : Nat → ByteArray := P.2.2.2.2.2.1
def x_rt (P : xP) : Nat → Option FieldType := P.2.2.2.2.2.2
/-- a new symbol with bounds -/
def x_fresh (t : Nat) (E : xE) (lo hi : Int) : xV × xE := ((t, some E.length, 0), E ++ [(lo, hi)])
def x_top32 (E : xE) : xV × xE := x_fresh 0 E (-2147483648) 2147483647
def x_top64 (E : xE) : xV × xE := x_fresh 1 E (-9223372036854775808) 9223372036854775807
def x_in32 (lo hi : Int) : Bool := decide (-2147483648 ≤ lo) && decide (hi ≤ 2147483647)
def x_bin (op : Int32 → Int32 → Int32) (E : xE) (v w : xV) : xV × xE := match v.2.1, w.2.1 with
  | none, none => ((0, none, (op (Int32.ofInt v.2.2) (Int32.ofInt w.2.2)).toInt), E)
  | _, _ => x_top32 E
def x_binL (op : Int64 → Int64 → Int64) (E : xE) (v w : xV) : xV × xE := match v.2.1, w.2.1 with
  | none, none => ((1, none, (op (Int64.ofInt v.2.2) (Int64.ofInt w.2.2)).toInt), E)
  | _, _ => x_top64 E
def x_shL (op : Int64 → Int32 → Int64) (E : xE) (v w : xV) : xV × xE := match v.2.1, w.2.1 with
  | none, none => ((1, none, (op (Int64.ofInt v.2.2) (Int32.ofInt w.2.2)).toInt), E)
  | _, _ => x_top64 E
def x_cmpL (E : xE) (v w : xV) : xV × xE := match v.2.1, w.2.1 with
  | none, none => ((0, none, (lg_cmp (Int64.ofInt v.2.2) (Int64.ofInt w.2.2)).toInt), E)
  | _, _ => x_top32 E
def x_addc (E : xE) (v : xV) (c : Int) : xV × xE := match v.2.1 with
  | none => ((0, none, (Int32.ofInt v.2.2 + Int32.ofInt c).toInt), E)
  | some i => if x_in32 ((x_iv E v).1 + c) ((x_iv E v).2 + c) = true then ((0, some i, v.2.2 + c), E) else x_top32 E
def x_subc (E : xE) (v : xV) (c : Int) : xV × xE := match v.2.1 with
  | none => ((0, none, (Int32.ofInt v.2.2 - Int32.ofInt c).toInt), E)
  | some i => if x_in32 ((x_iv E v).1 - c) ((x_iv E v).2 - c) = true then ((0, some i, v.2.2 - c), E) else x_top32 E
def x_add (E : xE) (v w : xV) : xV × xE := match w.2.1 with
  | none => x_addc E v w.2.2
  | some _ => match v.2.1 with
    | none => x_addc E w v.2.2
    | some _ => if x_in32 ((x_iv E v).1 + (x_iv E w).1) ((x_iv E v).2 + (x_iv E w).2) = true then x_fresh 0 E ((x_iv E v).1 + (x_iv E w).1) ((x_iv E v).2 + (x_iv E w).2) else x_top32 E
def x_sub (E : xE) (v w : xV) : xV × xE := match w.2.1 with
  | none => x_subc E v w.2.2
  | some _ => if x_in32 ((x_iv E v).1 - (x_iv E w).2) ((x_iv E v).2 - (x_iv E w).1) = true then x_fresh 0 E ((x_iv E v).1 - (x_iv E w).2) ((x_iv E v).2 - (x_iv E w).1) else x_top32 E
def x_l2i (E : xE) (v : xV) : xV × xE := match v.2.1 with
  | none => ((0, none, (Int64.ofInt v.2.2).toInt32.toInt), E)
  | some i => if x_in32 (x_iv E v).1 (x_iv E v).2 = true then ((0, some i, v.2.2), E) else x_top32 E
/-- comparisons -/
def x_holds (c : ClassFile.Cond) (x y : Int) : Prop := match c with
  | .eq => x = y
  | .ne => ¬ x = y
  | .lt => x < y
  | .ge => ¬ x < y
  | .gt => y < x
  | .le => ¬ y < x
def x_neg : ClassFile.Cond → ClassFile.Cond
  | .eq => .ne
  | .ne => .eq
  | .lt => .ge
  | .ge => .lt
  | .gt => .le
  | .le => .gt
/-- can it be? by bounds -/
def x_can (c : ClassFile.Cond) (a b : Int × Int) : Bool := match c with
  | .eq => decide (a.1 ≤ b.2) && decide (b.1 ≤ a.2)
  | .ne => true
  | .lt => decide (a.1 < b.2)
  | .ge => decide (b.1 ≤ a.2)
  | .gt => decide (b.1 < a.2)
  | .le => decide (a.1 ≤ b.2)
def x_M : Int := 9223372036854775808
def x_asm (E : xE) (c : ClassFile.Cond) (v w : xV) : xE := match c with
  | .eq => x_cap (x_cap E v (x_iv E w).1 (x_iv E w).2) w (x_iv E v).1 (x_iv E v).2
  | .ne => E
  | .lt => x_cap (x_cap E v (-x_M) ((x_iv E w).2 - 1)) w ((x_iv E v).1 + 1) x_M
  | .ge => x_cap (x_cap E v (x_iv E w).1 x_M) w (-x_M) (x_iv E v).2
  | .gt => x_cap (x_cap E v ((x_iv E w).1 + 1) x_M) w (-x_M) ((x_iv E v).2 - 1)
  | .le => x_cap (x_cap E v (-x_M) (x_iv E w).2) w (x_iv E v).1 x_M
def x_alt (E : xE) (c : ClassFile.Cond) (v w : xV) : List xE := if x_can c (x_iv E v) (x_iv E w) = true then [x_asm E c v w] else []
def x_alts (E : xE) (c : ClassFile.Cond) (v w : xV) : List xE := match c with
  | .ne => if v.2 = w.2 then [] else x_alt E .lt v w ++ x_alt E .gt v w
  | c => x_alt E c v w
/-- an array's place, read and written -/
def x_rdD (t : Nat) (E : xE) (lo hi : Int) : xV × xE := if lo = hi then ((t, none, lo), E) else x_fresh t E lo hi
def x_rd (t : Nat) (E : xE) (a : xA) (i : xV) : Option (xV × xE) :=
  if 0 ≤ (x_iv E i).1 ∧ (x_iv E i).2 < (a.2.1 : Int) then
    match i.2.1 with
    | none => match x_find a.2.2.2.2 i.2.2.toNat with
      | some v => some ((t, v.2), E)
      | none => some (x_rdD t E a.2.2.1 a.2.2.2.1)
    | some _ => match a.2.2.2.2 with
      | [] => some (x_rdD t E a.2.2.1 a.2.2.2.1)
      | _ :: _ => some (if t = 0 then x_top32 E else x_top64 E)
  else none
def x_wr (t : Nat) (E : xE) (a : xA) (i v : xV) : Option xA :=
  if 0 ≤ (x_iv E i).1 ∧ (x_iv E i).2 < (a.2.1 : Int) then
    match i.2.1 with
    | none => if a.2.2.1 = a.2.2.2.1 ∧ v.2.1 = none ∧ v.2.2 = a.2.2.1 ∧ x_find a.2.2.2.2 i.2.2.toNat = none then some a
      else some (a.1, a.2.1, a.2.2.1, a.2.2.2.1, (i.2.2.toNat, v) :: a.2.2.2.2)
    | some _ => match a.2.2.2.2 with
      | [] => some (a.1, a.2.1, min a.2.2.1 (x_iv E v).1, max a.2.2.2.1 (x_iv E v).2, [])
      | _ :: _ => if t = 1 then some (a.1, a.2.1, -9223372036854775808, 9223372036854775807, []) else some (a.1, a.2.1, -2147483648, 2147483647, [])
  else none
def x_dflt : Nat → xV
  | 1 => (1, none, 0)
  | 2 => (2, none, 0)
  | _ => (0, none, 0)
/-- a field's kind (0 int, 1 long, 2 reference, 3 boolean; 10 more: final) takes the value -/
def x_fit (E : xE) (kd : Nat) (v : xV) : Bool := match kd % 10 with
  | 0 => v.1 == 0
  | 1 => v.1 == 1
  | 2 => v.1 == 2 || v.1 == 3
  | 3 => v.1 == 0 && decide (0 ≤ (x_iv E v).1) && decide ((x_iv E v).2 ≤ 1)
  | _ => false
section XSTEP
variable (P : xP) (m pc : Nat) (L : List (Nat × xV)) (st : List xV) (cc ss : Nat) (fs : List xF) (h : List xC) (E : xE)
def x_at (pc' : Nat) (L' : List (Nat × xV)) (st' : List xV) (E' : xE) : xS := ((m, pc', L', st', cc, ss) :: fs, h, E')
def x_ld (n t i : Nat) : Option (List xS) := match x_find L i with
  | some v => if v.1 = t then some [x_at m cc ss fs h (pc + n) L (v :: st) E] else none
  | none => none
def x_lda (n i : Nat) : Option (List xS) := match x_find L i with
  | some v => if v.1 = 3 ∨ v.1 = 4 then some [x_at m cc ss fs h (pc + n) L (v :: st) E] else none
  | none => none
def x_st (n i : Nat) : Option (List xS) := match st with
  | v :: r => if v.1 = 0 ∧ i < x_maxL P m then some [x_at m cc ss fs h (pc + n) (x_put1 L i v) r E] else none
  | [] => none
def x_stL (n i : Nat) : Option (List xS) := match st with
  | v :: r => if v.1 = 1 ∧ i + 1 < x_maxL P m then some [x_at m cc ss fs h (pc + n) (x_put2 L i v) r E] else none
  | [] => none
def x_stA (n i : Nat) : Option (List xS) := match st with
  | v :: r => if v.1 = 3 ∧ i < x_maxL P m then some [x_at m cc ss fs h (pc + n) (x_put1 L i v) r E] else none
  | [] => none
def x_op2 (f : xE → xV → xV → xV × xE) : Option (List xS) := match st with
  | w :: v :: r => if v.1 = 0 ∧ w.1 = 0 then some [x_at m cc ss fs h (pc + 1) L ((f E v w).1 :: r) (f E v w).2] else none
  | _ => none
def x_opL (f : xE → xV → xV → xV × xE) : Option (List xS) := match st with
  | w :: v :: r => if v.1 = 1 ∧ w.1 = 1 then some [x_at m cc ss fs h (pc + 1) L ((f E v w).1 :: r) (f E v w).2] else none
  | _ => none
def x_opS (f : xE → xV → xV → xV × xE) : Option (List xS) := match st with
  | w :: v :: r => if v.1 = 1 ∧ w.1 = 0 then some [x_at m cc ss fs h (pc + 1) L ((f E v w).1 :: r) (f E v w).2] else none
  | _ => none
/-- a divisor that isn't 0 -/
def x_nz (w : xV) : Bool := decide (0 < (x_iv E w).1) || decide ((x_iv E w).2 < 0)
def x_div (f : xE → xV → xV → xV × xE) : Option (List xS) := match st with
  | w :: v :: r => if v.1 = 0 ∧ w.1 = 0 ∧ x_nz E w = true then some [x_at m cc ss fs h (pc + 1) L ((f E v w).1 :: r) (f E v w).2] else none
  | _ => none
def x_divL (f : xE → xV → xV → xV × xE) : Option (List xS) := match st with
  | w :: v :: r => if v.1 = 1 ∧ w.1 = 1 ∧ x_nz E w = true then some [x_at m cc ss fs h (pc + 1) L ((f E v w).1 :: r) (f E v w).2] else none
  | _ => none
def x_br (c : ClassFile.Cond) (v w : xV) (r : List xV) (off : Int) : Option (List xS) :=
  if v.1 = 0 ∧ w.1 = 0 ∧ 0 ≤ (pc : Int) + off then
    some ((x_alts E c v w).map (fun E' => x_at m cc ss fs h ((pc : Int) + off).toNat L r E') ++ (x_alts E (x_neg c) v w).map (fun E' => x_at m cc ss fs h (pc + 3) L r E'))
  else none
def x_swI (v : xV) (r : List xV) (lo : Int) : Nat → List Int → List xS
  | _, [] => []
  | k, off :: l => (if x_can .eq (x_iv E v) (lo + k, lo + k) = true then [x_at m cc ss fs h ((pc : Int) + off).toNat L r (x_cap E v (lo + k) (lo + k))] else []) ++ x_swI v r lo (k + 1) l
def x_sw (v : xV) (r : List xV) (dflt lo hi : Int) (offs : List Int) : Option (List xS) :=
  if v.1 = 0 ∧ 0 ≤ (pc : Int) + dflt ∧ offs.all (fun o => decide (0 ≤ (pc : Int) + o)) = true ∧ (offs.length : Int) = hi - lo + 1 then
    some ((if (x_iv E v).1 < lo then [x_at m cc ss fs h ((pc : Int) + dflt).toNat L r (x_cap E v (-x_M) (lo - 1))] else []) ++
      (if hi < (x_iv E v).2 then [x_at m cc ss fs h ((pc : Int) + dflt).toNat L r (x_cap E v (hi + 1) x_M)] else []) ++ x_swI m pc L cc ss fs h E v r lo 0 offs)
  else none
def x_getf (idx : Nat) : Option (List xS) := match st with
  | (3, _, k) :: r => match x_pool P m idx, h[k.toNat]? with
    | (1, ci, f), some (.inr (ci', vs)) => if ci' = ci then match vs[f.toNat]? with
      | some v => some [x_at m cc ss fs h (pc + 3) L (v :: r) E]
      | none => none else none
    | _, _ => none
  | _ => none
def x_putf (idx : Nat) : Option (List xS) := match st with
  | v :: (3, _, k) :: r => match x_pool P m idx, h[k.toNat]? with
    | (1, ci, f), some (.inr (ci', vs)) => if ci' = ci ∧ f.toNat < vs.length then match (x_cls P ci)[f.toNat]? with
      | some kd => if x_fit E kd v = true ∧ (kd < 10 ∨ (x_nm P m).name = "<init>" ∧ x_mci P m = ci) then
          some [((m, pc + 3, L, r, cc, ss) :: fs, h.set k.toNat (.inr (ci, vs.set f.toNat v)), E)] else none
      | none => none else none
    | _, _ => none
  | _ => none
def x_ald (t ty : Nat) : Option (List xS) := match st with
  | i :: (3, _, k) :: r => match h[k.toNat]? with
    | some (.inl a) => if i.1 = 0 ∧ a.1 = ty then match x_rd t E a i with
      | some q => some [x_at m cc ss fs h (pc + 1) L (q.1 :: r) q.2]
      | none => none else none
    | _ => none
  | i :: (4, _, _) :: r => if ty = 0 ∧ m = 0 ∧ i.1 = 0 ∧ i.2.1 = none ∧ 0 ≤ i.2.2 ∧ i.2.2 < 6 ∧ i.2.2 < (x_iv E (0, some 6, 0)).1 then some [x_at m cc ss fs h (pc + 1) L ((0, some i.2.2.toNat, 0) :: r) E] else none
  | _ => none
def x_ast (t ty : Nat) : Option (List xS) := match st with
  | v :: i :: (3, _, k) :: r => match h[k.toNat]? with
    | some (.inl a) => if i.1 = 0 ∧ v.1 = t ∧ a.1 = ty ∧ (ty = 2 → x_fit E 3 v = true) then match x_wr t E a i v with
      | some b => some [((m, pc + 1, L, r, cc, ss) :: fs, h.set k.toNat (.inl b), E)]
      | none => none else none
    | _ => none
  | _ => none
def x_alen : Option (List xS) := match st with
  | (3, _, k) :: r => match h[k.toNat]? with
    | some (.inl a) => if a.1 < 3 then some [x_at m cc ss fs h (pc + 1) L ((0, none, (Int32.ofNat a.2.1).toInt) :: r) E] else none
    | _ => none
  | (4, _, _) :: r => if m = 0 then some [x_at m cc ss fs h (pc + 1) L ((0, some 6, 0) :: r) E] else none
  | _ => none
def x_newa (ty : Nat) : Option (List xS) := match st with
  | (0, none, n) :: r => if 0 ≤ n ∧ n ≤ 60000000 ∧ cc + 1 ≤ x_mc P m ∧ ss + n.toNat ≤ x_ms P m then
      some [((m, pc + 2, L, (3, none, h.length) :: r, cc + 1, ss + n.toNat) :: fs, h ++ [.inl (ty, n.toNat, 0, 0, [])], E)] else none
  | _ => none
def x_new (idx : Nat) : Option (List xS) := match x_pool P m idx with
  | (9, ci, _) => if cc + 1 ≤ x_mc P m ∧ ss + (x_cls P ci).length ≤ x_ms P m then
      some [((m, pc + 3, L, (3, none, h.length) :: st, cc + 1, ss + (x_cls P ci).length) :: fs, h ++ [.inr (ci, (x_cls P ci).map (fun k => x_dflt (k % 10)))], E)] else none
  | _ => none
/-- a call: method j, its arguments (receiver first), what stays on the stack -/
def x_push (j : Nat) (as rest : List xV) : Option (List xS) :=
  if cc + x_mc P j ≤ x_mc P m ∧ ss + x_ms P j ≤ x_ms P m ∧ fs.length < 40 ∧ x_maxL P j ≤ 60 ∧ (as.map x_cat).sum ≤ x_maxL P j ∧ (rest.map x_cat).sum ≤ 8 then
    some [((j, 0, x_args 0 as, [], 0, 0) :: (m, pc + 3, L, rest, cc + x_mc P j, ss + x_ms P j) :: fs, h, E)]
  else none
def x_cpy (idx : Nat) : Option (List xS) := match st with
  | (0, none, n) :: (0, none, dp) :: (3, _, kd) :: (0, none, sp) :: (3, _, ks) :: r => match h[ks.toNat]?, h[kd.toNat]? with
    | some (.inl (0, n0, lo0, hi0, [])), some (.inl (0, n1, lo1, hi1, [])) =>
      if 0 ≤ n ∧ 0 ≤ dp ∧ 0 ≤ sp ∧ sp + n ≤ n0 ∧ dp + n ≤ n1 ∧ (r.map x_cat).sum ≤ 8 then
        some [((m, pc + 3, L, r, cc, ss) :: fs, h.set kd.toNat (.inl (0, n1, min lo0 lo1, max hi0 hi1, [])), E)] else none
    | _, _ => none
  | _ => none
def x_invV (idx : Nat) : Option (List xS) := match x_pool P m idx with
  | (2, j, n) => match st.drop n.toNat with
    | (3, b, k) :: rest => match h[k.toNat]? with
      | some (.inr (ci, _)) => if ci = x_mci P j ∧ (st.take n.toNat).length = n.toNat then x_push P m pc L cc ss fs h E j ((3, b, k) :: (st.take n.toNat).reverse) rest else none
      | _ => none
    | _ => none
  | _ => none
def x_invI (idx : Nat) : Option (List xS) := match x_pool P m idx with
  | (3, j, n) => match st.drop n.toNat with
    | (3, b, k) :: rest => if (st.take n.toNat).length = n.toNat then x_push P m pc L cc ss fs h E j ((3, b, k) :: (st.take n.toNat).reverse) rest else none
    | _ => none
  | (4, j, n) => match st.drop n.toNat with
    | (3, b, k) :: rest => if (st.take n.toNat).length = n.toNat then x_push P m pc L cc ss fs h E j ((3, b, k) :: (st.take n.toNat).reverse) rest else none
    | _ => none
  | (5, _, _) => match st with
    | (3, _, _) :: r => if (r.map x_cat).sum ≤ 8 then some [x_at m cc ss fs h (pc + 3) L r E] else none
    | _ => none
  | _ => none
def x_invS (idx : Nat) : Option (List xS) := match x_pool P m idx with
  | (6, j, n) => if (st.take n.toNat).length = n.toNat then x_push P m pc L cc ss fs h E j (st.take n.toNat).reverse (st.drop n.toNat) else none
  | (10, _, _) => x_cpy m pc L st cc ss fs h E idx
  | _ => none
/-- the end of a method: its kind (0 nothing, 1 int, 2 boolean, 3 long) -/
def x_ret (t : Nat) : Option (List xS) := match st with
  | [v] => if v.1 = t then match fs with
      | [] => if t = 0 ∧ m = 0 ∧ v.2.1 = none ∧ v.2.2 = 1 then some [] else none
      | (m', pc', L', st', cc', ss') :: fs' => if cc ≤ x_mc P m ∧ ss ≤ x_ms P m ∧ (t = 0 ∧ x_retk P m = 1 ∨ t = 0 ∧ x_retk P m = 2 ∧ x_fit E 3 v = true ∨ t = 1 ∧ x_retk P m = 3) then some [((m', pc', L', v :: st', cc', ss') :: fs', h, E)] else none
      else none
  | _ => none
def x_retV : Option (List xS) := match st, fs with
  | [], (m', pc', L', st', cc', ss') :: fs' => if cc ≤ x_mc P m ∧ ss ≤ x_ms P m ∧ x_retk P m = 0 then some [((m', pc', L', st', cc', ss') :: fs', h, E)] else none
  | _, _ => none
def x_if (b : Bool) (r : Option (List xS)) : Option (List xS) := cond b r none
def x_push1 (n : Nat) (v : xV) : Option (List xS) := some [x_at m cc ss fs h (pc + n) L (v :: st) E]
def x_ins (i : Instr) (len : Nat) : Option (List xS) := match i with
  | .iconst n => x_if (len == 1) (x_push1 m pc L st cc ss fs h E 1 (0, none, (Int32.ofInt n).toInt))
  | .bipush n => x_if (len == 2) (x_push1 m pc L st cc ss fs h E 2 (0, none, (Int8.ofInt n).toInt32.toInt))
  | .sipush n => x_if (len == 3) (x_push1 m pc L st cc ss fs h E 3 (0, none, (Int16.ofInt n).toInt32.toInt))
  | .lconst k => x_if (len == 1) (x_push1 m pc L st cc ss fs h E 1 (1, none, (Int64.ofNat (k : Nat)).toInt))
  | .ldc idx => x_if (len == 2) (match x_pool P m idx with
    | (7, _, c) => x_push1 m pc L st cc ss fs h E 2 (0, none, c)
    | _ => none)
  | .ldc_w idx => x_if (len == 3) (match x_pool P m idx with
    | (7, _, c) => x_push1 m pc L st cc ss fs h E 3 (0, none, c)
    | _ => none)
  | .ldc2_w idx => x_if (len == 3) (match x_pool P m idx with
    | (8, _, c) => x_push1 m pc L st cc ss fs h E 3 (1, none, c)
    | _ => none)
  | .iload i => x_if (len == 2) (x_ld m pc L st cc ss fs h E 2 0 i)
  | .iload_n i => x_if (len == 1) (x_ld m pc L st cc ss fs h E 1 0 (i : Nat))
  | .lload i => x_if (len == 2) (x_ld m pc L st cc ss fs h E 2 1 i)
  | .lload_n i => x_if (len == 1) (x_ld m pc L st cc ss fs h E 1 1 (i : Nat))
  | .aload i => x_if (len == 2) (x_lda m pc L st cc ss fs h E 2 i)
  | .aload_n i => x_if (len == 1) (x_lda m pc L st cc ss fs h E 1 (i : Nat))
  | .istore i => x_if (len == 2) (x_st P m pc L st cc ss fs h E 2 i)
  | .istore_n i => x_if (len == 1) (x_st P m pc L st cc ss fs h E 1 (i : Nat))
  | .lstore i => x_if (len == 2) (x_stL P m pc L st cc ss fs h E 2 i)
  | .lstore_n i => x_if (len == 1) (x_stL P m pc L st cc ss fs h E 1 (i : Nat))
  | .astore i => x_if (len == 2) (x_stA P m pc L st cc ss fs h E 2 i)
  | .astore_n i => x_if (len == 1) (x_stA P m pc L st cc ss fs h E 1 (i : Nat))
  | .iinc i n => x_if (len == 3) (match x_find L i with
    | some v => if v.1 = 0 ∧ i < x_maxL P m then some [x_at m cc ss fs h (pc + 3) (x_put1 L i (x_addc E v (Int32.ofInt n).toInt).1) st (x_addc E v (Int32.ofInt n).toInt).2] else none
    | none => none)
  | .iadd => x_if (len == 1) (x_op2 m pc L st cc ss fs h E x_add)
  | .isub => x_if (len == 1) (x_op2 m pc L st cc ss fs h E x_sub)
  | .imul => x_if (len == 1) (x_op2 m pc L st cc ss fs h E (x_bin (· * ·)))
  | .iand => x_if (len == 1) (x_op2 m pc L st cc ss fs h E (x_bin (· &&& ·)))
  | .ior => x_if (len == 1) (x_op2 m pc L st cc ss fs h E (x_bin (· ||| ·)))
  | .ixor => x_if (len == 1) (x_op2 m pc L st cc ss fs h E (x_bin (· ^^^ ·)))
  | .ishl => x_if (len == 1) (x_op2 m pc L st cc ss fs h E (x_bin (fun x y => x <<< (y &&& 31))))
  | .ishr => x_if (len == 1) (x_op2 m pc L st cc ss fs h E (x_bin (fun x y => x >>> (y &&& 31))))
  | .iushr => x_if (len == 1) (x_op2 m pc L st cc ss fs h E (x_bin (fun x y => (x.toUInt32 >>> (y.toUInt32 &&& Int32.toUInt32 31)).toInt32)))
  | .idiv => x_if (len == 1) (x_div m pc L st cc ss fs h E (x_bin (· / ·)))
  | .irem => x_if (len == 1) (x_div m pc L st cc ss fs h E (x_bin (fun x y => x - x / y * y)))
  | .ladd => x_if (len == 1) (x_opL m pc L st cc ss fs h E (x_binL (· + ·)))
  | .lsub => x_if (len == 1) (x_opL m pc L st cc ss fs h E (x_binL (· - ·)))
  | .lmul => x_if (len == 1) (x_opL m pc L st cc ss fs h E (x_binL (· * ·)))
  | .land => x_if (len == 1) (x_opL m pc L st cc ss fs h E (x_binL (· &&& ·)))
  | .lor => x_if (len == 1) (x_opL m pc L st cc ss fs h E (x_binL (· ||| ·)))
  | .ldiv => x_if (len == 1) (x_divL m pc L st cc ss fs h E (x_binL (· / ·)))
  | .lrem => x_if (len == 1) (x_divL m pc L st cc ss fs h E (x_binL (fun x y => x - x / y * y)))
  | .lcmp => x_if (len == 1) (x_opL m pc L st cc ss fs h E x_cmpL)
  | .lshl => x_if (len == 1) (x_opS m pc L st cc ss fs h E (x_shL (fun x y => x <<< (y.toInt64 &&& 63))))
  | .lshr => x_if (len == 1) (x_opS m pc L st cc ss fs h E (x_shL (fun x y => x >>> (y.toInt64 &&& 63))))
  | .i2l => x_if (len == 1) (match st with
    | v :: r => if v.1 = 0 then some [x_at m cc ss fs h (pc + 1) L ((1, v.2) :: r) E] else none
    | [] => none)
  | .l2i => x_if (len == 1) (match st with
    | v :: r => if v.1 = 1 then some [x_at m cc ss fs h (pc + 1) L ((x_l2i E v).1 :: r) (x_l2i E v).2] else none
    | [] => none)
  | .dup => x_if (len == 1) (match st with
    | v :: r => if x_cat v = 1 then some [x_at m cc ss fs h (pc + 1) L (v :: v :: r) E] else none
    | [] => none)
  | .pop => x_if (len == 1) (match st with
    | v :: r => if x_cat v = 1 then some [x_at m cc ss fs h (pc + 1) L r E] else none
    | [] => none)
  | .dup2 => x_if (len == 1) (match st with
    | v :: w :: r => if x_cat v = 1 ∧ x_cat w = 1 then some [x_at m cc ss fs h (pc + 1) L (v :: w :: v :: w :: r) E] else none
    | _ => none)
  | .ifCond c off => x_if (len == 3) (match st with
    | v :: r => x_br m pc L cc ss fs h E c v (0, none, 0) r off
    | [] => none)
  | .if_icmp c off => x_if (len == 3) (match st with
    | w :: v :: r => x_br m pc L cc ss fs h E c v w r off
    | _ => none)
  | .goto off => x_if (len == 3) (if 0 ≤ (pc : Int) + off then some [x_at m cc ss fs h ((pc : Int) + off).toNat L st E] else none)
  | .tableswitch dflt lo hi offs => match st with
    | v :: r => x_sw m pc L cc ss fs h E v r dflt lo hi offs.toList
    | [] => none
  | .getfield idx => x_if (len == 3) (x_getf P m pc L st cc ss fs h E idx)
  | .putfield idx => x_if (len == 3) (x_putf P m pc L st cc ss fs h E idx)
  | .iaload => x_if (len == 1) (x_ald m pc L st cc ss fs h E 0 0)
  | .laload => x_if (len == 1) (x_ald m pc L st cc ss fs h E 1 1)
  | .baload => x_if (len == 1) (x_ald m pc L st cc ss fs h E 0 2)
  | .iastore => x_if (len == 1) (x_ast m pc L st cc ss fs h E 0 0)
  | .lastore => x_if (len == 1) (x_ast m pc L st cc ss fs h E 1 1)
  | .bastore => x_if (len == 1) (x_ast m pc L st cc ss fs h E 0 2)
  | .arraylength => x_if (len == 1) (x_alen m pc L st cc ss fs h E)
  | .newarray t => x_if (len == 2) (match t with
    | .int => x_newa P m pc L st cc ss fs h E 0
    | .long => x_newa P m pc L st cc ss fs h E 1
    | .boolean => x_newa P m pc L st cc ss fs h E 2
    | _ => none)
  | .new idx => x_if (len == 3) (x_new P m pc L st cc ss fs h E idx)
  | .invokevirtual idx => x_if (len == 3) (x_invV P m pc L st cc ss fs h E idx)
  | .invokespecial idx => x_if (len == 3) (x_invI P m pc L st cc ss fs h E idx)
  | .invokestatic idx => x_if (len == 3) (x_invS P m pc L st cc ss fs h E idx)
  | .ireturn => x_if (len == 1) (x_ret P m st cc ss fs h E 0)
  | .lreturn => x_if (len == 1) (x_ret P m st cc ss fs h E 1)
  | .return_ => x_if (len == 1) (x_retV P m st cc ss fs h E)
  | _ => none
end XSTEP
def x_step (P : xP) (S : xS) : Option (List xS) := match S with
  | ([], _, _) => none
  | ((m, pc, L, st, cc, ss) :: fs, h, E) => match x_code P m pc with
    | some (i, len) => x_ins P m pc L st cc ss fs h E i len
    | none => none
def x_run (P : xP) : Nat → xS → Bool
  | 0, _ => false
  | n + 1, S => match x_step P S with
    | some [S'] => x_run P n S'
    | some l => l.all (x_run P n)
    | none => false
theorem x_run_ok {P : xP} {n : Nat} {S : xS} (h : x_run P (n + 1) S = true) : ∃ l, x_step P S = some l ∧ ∀ S' ∈ l, x_run P n S' = true := by
  unfold x_run at h
  split at h
  next S' e => exact ⟨[S'], e, fun q hq => by rw [List.mem_singleton.mp hq]; exact h⟩
  next l _ e => exact ⟨l, e, fun q hq => List.all_eq_true.mp h q hq⟩
  next => cases h
end
section
def RX0 : String := "OwnChair$Errand"
def TX0 : u_T := fun k => match k with
  | 0 => ("OwnChair$Errand", "best", "[I", true)
  | 1 => ("OwnChair$Errand", "taken", "[I", true)
  | _ => ("OwnChair$Errand", "ways", "I", false)
def tyX0 : Nat → FieldType := fun k => match k with
  | 0 => .array .int
  | 1 => .array .int
  | _ => .int
theorem nmX0 : ∀ a, a < 3 → ∀ b, b < 3 → a ≠ b → (TX0 a).2.1 ≠ (TX0 b).2.1 := by decide +kernel
theorem tyX0_ok : ∀ k, k < 3 → parseFieldDescriptor (TX0 k).2.2.1 = some (tyX0 k) := by decide +kernel
def RX1 : String := "OwnChair$Formula"
def TX1 : u_T := fun k => match k with
  | 0 => ("OwnChair$Formula", "stack", "[I", true)
  | 1 => ("OwnChair$Formula", "steps", "[I", false)
  | _ => ("OwnChair$Formula", "size", "I", false)
def tyX1 : Nat → FieldType := fun k => match k with
  | 0 => .array .int
  | 1 => .array .int
  | _ => .int
theorem nmX1 : ∀ a, a < 3 → ∀ b, b < 3 → a ≠ b → (TX1 a).2.1 ≠ (TX1 b).2.1 := by decide +kernel
theorem tyX1_ok : ∀ k, k < 3 → parseFieldDescriptor (TX1 k).2.2.1 = some (tyX1 k) := by decide +kernel
def RX2 : String := "OwnChair$History"
def TX2 : u_T := fun k => match k with
  | 0 => ("OwnChair$History", "rows", "[I", true)
  | 1 => ("OwnChair$History", "newest", "I", false)
  | _ => ("OwnChair$History", "count", "I", false)
def tyX2 : Nat → FieldType := fun k => match k with
  | 0 => .array .int
  | 1 => .int
  | _ => .int
theorem nmX2 : ∀ a, a < 3 → ∀ b, b < 3 → a ≠ b → (TX2 a).2.1 ≠ (TX2 b).2.1 := by decide +kernel
theorem tyX2_ok : ∀ k, k < 3 → parseFieldDescriptor (TX2 k).2.2.1 = some (tyX2 k) := by decide +kernel
def RX3 : String := "OwnChair$Lexer"
def TX3 : u_T := fun k => match k with
  | 0 => ("OwnChair$Lexer", "text", "[I", false)
  | 1 => ("OwnChair$Lexer", "length", "I", false)
  | 2 => ("OwnChair$Lexer", "place", "I", false)
  | 3 => ("OwnChair$Lexer", "kind", "I", false)
  | 4 => ("OwnChair$Lexer", "value", "I", false)
  | 5 => ("OwnChair$Lexer", "start", "I", false)
  | 6 => ("OwnChair$Lexer", "fault", "I", false)
  | _ => ("OwnChair$Lexer", "faultPlace", "I", false)
def tyX3 : Nat → FieldType := fun k => match k with
  | 0 => .array .int
  | 1 => .int
  | 2 => .int
  | 3 => .int
  | 4 => .int
  | 5 => .int
  | 6 => .int
  | _ => .int
theorem nmX3 : ∀ a, a < 8 → ∀ b, b < 8 → a ≠ b → (TX3 a).2.1 ≠ (TX3 b).2.1 := by decide +kernel
theorem tyX3_ok : ∀ k, k < 8 → parseFieldDescriptor (TX3 k).2.2.1 = some (tyX3 k) := by decide +kernel
def RX4 : String := "OwnChair$Paths"
def TX4 : u_T := fun k => match k with
  | 0 => ("OwnChair$Paths", "price", "[I", true)
  | 1 => ("OwnChair$Paths", "who", "[I", true)
  | 2 => ("OwnChair$Paths", "left", "[I", true)
  | 3 => ("OwnChair$Paths", "path", "[I", true)
  | 4 => ("OwnChair$Paths", "start", "I", false)
  | 5 => ("OwnChair$Paths", "length", "I", false)
  | _ => ("OwnChair$Paths", "minutes", "I", false)
def tyX4 : Nat → FieldType := fun k => match k with
  | 0 => .array .int
  | 1 => .array .int
  | 2 => .array .int
  | 3 => .array .int
  | 4 => .int
  | 5 => .int
  | _ => .int
theorem nmX4 : ∀ a, a < 7 → ∀ b, b < 7 → a ≠ b → (TX4 a).2.1 ≠ (TX4 b).2.1 := by decide +kernel
theorem tyX4_ok : ∀ k, k < 7 → parseFieldDescriptor (TX4 k).2.2.1 = some (tyX4 k) := by decide +kernel
def RX5 : String := "OwnChair$Scene"
def TX5 : u_T := fun k => match k with
  | 0 => ("OwnChair$Scene", "town", "LOwnChair$Town;", false)
  | 1 => ("OwnChair$Scene", "draft", "LOwnChair$Town;", false)
  | 2 => ("OwnChair$Scene", "cells", "[I", true)
  | _ => ("OwnChair$Scene", "given", "[I", true)
def tyX5 : Nat → FieldType := fun k => match k with
  | 0 => .object "OwnChair$Town"
  | 1 => .object "OwnChair$Town"
  | 2 => .array .int
  | _ => .array .int
theorem nmX5 : ∀ a, a < 4 → ∀ b, b < 4 → a ≠ b → (TX5 a).2.1 ≠ (TX5 b).2.1 := by decide +kernel
theorem tyX5_ok : ∀ k, k < 4 → parseFieldDescriptor (TX5 k).2.2.1 = some (tyX5 k) := by decide +kernel
def RX6 : String := "OwnChair$Seating"
def TX6 : u_T := fun k => match k with
  | 0 => ("OwnChair$Seating", "wanted", "[I", true)
  | 1 => ("OwnChair$Seating", "step", "[I", true)
  | 2 => ("OwnChair$Seating", "before", "[I", true)
  | 3 => ("OwnChair$Seating", "after", "[I", true)
  | 4 => ("OwnChair$Seating", "fresh", "[I", true)
  | 5 => ("OwnChair$Seating", "waysIn", "[I", true)
  | 6 => ("OwnChair$Seating", "told", "Z", false)
  | _ => ("OwnChair$Seating", "states", "I", false)
def tyX6 : Nat → FieldType := fun k => match k with
  | 0 => .array .int
  | 1 => .array .int
  | 2 => .array .int
  | 3 => .array .int
  | 4 => .array .int
  | 5 => .array .int
  | 6 => .boolean
  | _ => .int
theorem nmX6 : ∀ a, a < 8 → ∀ b, b < 8 → a ≠ b → (TX6 a).2.1 ≠ (TX6 b).2.1 := by decide +kernel
theorem tyX6_ok : ∀ k, k < 8 → parseFieldDescriptor (TX6 k).2.2.1 = some (tyX6 k) := by decide +kernel
def RX7 : String := "OwnChair$SumReader"
def TX7 : u_T := fun k => match k with
  | _ => ("OwnChair$SumReader", "lexer", "LOwnChair$Lexer;", true)
def tyX7 : Nat → FieldType := fun k => match k with
  | _ => .object "OwnChair$Lexer"
theorem nmX7 : ∀ a, a < 1 → ∀ b, b < 1 → a ≠ b → (TX7 a).2.1 ≠ (TX7 b).2.1 := by decide +kernel
theorem tyX7_ok : ∀ k, k < 1 → parseFieldDescriptor (TX7 k).2.2.1 = some (tyX7 k) := by decide +kernel
def RX8 : String := "OwnChair$Tape"
def TX8 : u_T := fun k => match k with
  | 0 => ("OwnChair$Tape", "bytes", "[I", true)
  | _ => ("OwnChair$Tape", "length", "I", false)
def tyX8 : Nat → FieldType := fun k => match k with
  | 0 => .array .int
  | _ => .int
theorem nmX8 : ∀ a, a < 2 → ∀ b, b < 2 → a ≠ b → (TX8 a).2.1 ≠ (TX8 b).2.1 := by decide +kernel
theorem tyX8_ok : ∀ k, k < 2 → parseFieldDescriptor (TX8 k).2.2.1 = some (tyX8 k) := by decide +kernel
def RX9 : String := "OwnChair$Town"
def TX9 : u_T := fun k => match k with
  | 0 => ("OwnChair$Town", "rooms", "I", false)
  | 1 => ("OwnChair$Town", "people", "I", false)
  | 2 => ("OwnChair$Town", "breaks", "I", false)
  | 3 => ("OwnChair$Town", "carpenter", "I", false)
  | 4 => ("OwnChair$Town", "roomName", "[I", true)
  | 5 => ("OwnChair$Town", "door", "[I", true)
  | 6 => ("OwnChair$Town", "floor", "[I", true)
  | 7 => ("OwnChair$Town", "minutes", "[I", true)
  | 8 => ("OwnChair$Town", "personName", "[I", true)
  | 9 => ("OwnChair$Town", "strong", "[I", true)
  | 10 => ("OwnChair$Town", "weight", "[I", true)
  | 11 => ("OwnChair$Town", "width", "[I", true)
  | 12 => ("OwnChair$Town", "partner", "[I", true)
  | 13 => ("OwnChair$Town", "home", "[I", true)
  | 14 => ("OwnChair$Town", "slow", "LOwnChair$Formula;", true)
  | _ => ("OwnChair$Town", "stands", "LOwnChair$Formula;", true)
def tyX9 : Nat → FieldType := fun k => match k with
  | 0 => .int
  | 1 => .int
  | 2 => .int
  | 3 => .int
  | 4 => .array .int
  | 5 => .array .int
  | 6 => .array .int
  | 7 => .array .int
  | 8 => .array .int
  | 9 => .array .int
  | 10 => .array .int
  | 11 => .array .int
  | 12 => .array .int
  | 13 => .array .int
  | 14 => .object "OwnChair$Formula"
  | _ => .object "OwnChair$Formula"
theorem nmX9 : ∀ a, a < 16 → ∀ b, b < 16 → a ≠ b → (TX9 a).2.1 ≠ (TX9 b).2.1 := by decide +kernel
theorem tyX9_ok : ∀ k, k < 16 → parseFieldDescriptor (TX9 k).2.2.1 = some (tyX9 k) := by decide +kernel
def RX10 : String := "OwnChair$TownReader"
def TX10 : u_T := fun k => match k with
  | 0 => ("OwnChair$TownReader", "sums", "LOwnChair$SumReader;", true)
  | 1 => ("OwnChair$TownReader", "lexer", "LOwnChair$Lexer;", true)
  | _ => ("OwnChair$TownReader", "number", "I", false)
def tyX10 : Nat → FieldType := fun k => match k with
  | 0 => .object "OwnChair$SumReader"
  | 1 => .object "OwnChair$Lexer"
  | _ => .int
theorem nmX10 : ∀ a, a < 3 → ∀ b, b < 3 → a ≠ b → (TX10 a).2.1 ≠ (TX10 b).2.1 := by decide +kernel
theorem tyX10_ok : ∀ k, k < 3 → parseFieldDescriptor (TX10 k).2.2.1 = some (tyX10 k) := by decide +kernel
def RX11 : String := "OwnChair"
def TX11 : u_T := fun k => match k with
  | 0 => ("OwnChair", "tape", "LOwnChair$Tape;", true)
  | 1 => ("OwnChair", "reader", "LOwnChair$TownReader;", true)
  | 2 => ("OwnChair", "scene", "LOwnChair$Scene;", true)
  | 3 => ("OwnChair", "history", "LOwnChair$History;", true)
  | 4 => ("OwnChair", "paths", "LOwnChair$Paths;", true)
  | 5 => ("OwnChair", "plan", "LOwnChair$Errand;", true)
  | 6 => ("OwnChair", "seating", "LOwnChair$Seating;", true)
  | 7 => ("OwnChair", "refused", "[I", true)
  | 8 => ("OwnChair", "picture", "[I", true)
  | 9 => ("OwnChair", "pictureLength", "I", false)
  | 10 => ("OwnChair", "faultKind", "I", false)
  | 11 => ("OwnChair", "faultPlace", "I", false)
  | _ => ("OwnChair", "chance", "I", false)
def tyX11 : Nat → FieldType := fun k => match k with
  | 0 => .object "OwnChair$Tape"
  | 1 => .object "OwnChair$TownReader"
  | 2 => .object "OwnChair$Scene"
  | 3 => .object "OwnChair$History"
  | 4 => .object "OwnChair$Paths"
  | 5 => .object "OwnChair$Errand"
  | 6 => .object "OwnChair$Seating"
  | 7 => .array .int
  | 8 => .array .int
  | 9 => .int
  | 10 => .int
  | 11 => .int
  | _ => .int
theorem nmX11 : ∀ a, a < 13 → ∀ b, b < 13 → a ≠ b → (TX11 a).2.1 ≠ (TX11 b).2.1 := by decide +kernel
theorem tyX11_ok : ∀ k, k < 13 → parseFieldDescriptor (TX11 k).2.2.1 = some (tyX11 k) := by decide +kernel
def RX12 : String := "OwnChairModel"
def TX12 : u_T := fun k => match k with
  | 0 => ("OwnChairModel", "tape", "[I", true)
  | 1 => ("OwnChairModel", "taped", "I", false)
  | 2 => ("OwnChairModel", "size", "I", false)
  | 3 => ("OwnChairModel", "sign", "I", false)
  | 4 => ("OwnChairModel", "signAt", "I", false)
  | 5 => ("OwnChairModel", "signEnd", "I", false)
  | 6 => ("OwnChairModel", "value", "I", false)
  | 7 => ("OwnChairModel", "word", "J", false)
  | 8 => ("OwnChairModel", "ninth", "I", false)
  | 9 => ("OwnChairModel", "faultKind", "I", false)
  | 10 => ("OwnChairModel", "faultPlace", "I", false)
  | 11 => ("OwnChairModel", "toldKind", "I", false)
  | 12 => ("OwnChairModel", "toldPlace", "I", false)
  | 13 => ("OwnChairModel", "lexAt", "I", false)
  | 14 => ("OwnChairModel", "bank", "I", false)
  | 15 => ("OwnChairModel", "rooms", "[I", true)
  | 16 => ("OwnChairModel", "roomDoor", "[I", true)
  | 17 => ("OwnChairModel", "roomFloor", "[I", true)
  | 18 => ("OwnChairModel", "wayTakes", "[I", true)
  | 19 => ("OwnChairModel", "persons", "[I", true)
  | 20 => ("OwnChairModel", "personStrong", "[I", true)
  | 21 => ("OwnChairModel", "personWeight", "[I", true)
  | 22 => ("OwnChairModel", "personWide", "[I", true)
  | 23 => ("OwnChairModel", "personRoom", "[I", true)
  | 24 => ("OwnChairModel", "personJoined", "[I", true)
  | 25 => ("OwnChairModel", "slowFrom", "[I", true)
  | 26 => ("OwnChairModel", "slowBehind", "[I", true)
  | 27 => ("OwnChairModel", "standsFrom", "[I", true)
  | 28 => ("OwnChairModel", "standsBehind", "[I", true)
  | 29 => ("OwnChairModel", "breaking", "[I", true)
  | 30 => ("OwnChairModel", "carpenter", "[I", true)
  | 31 => ("OwnChairModel", "codeSort", "[I", true)
  | 32 => ("OwnChairModel", "codeValue", "[I", true)
  | 33 => ("OwnChairModel", "roomName", "[J", true)
  | 34 => ("OwnChairModel", "personName", "[J", true)
  | 35 => ("OwnChairModel", "codes", "I", false)
  | 36 => ("OwnChairModel", "in", "I", false)
  | 37 => ("OwnChairModel", "frame", "[I", true)
  | 38 => ("OwnChairModel", "phase", "[I", true)
  | 39 => ("OwnChairModel", "begins", "[Z", true)
  | 40 => ("OwnChairModel", "pair", "[I", true)
  | 41 => ("OwnChairModel", "base", "[I", true)
  | 42 => ("OwnChairModel", "deep", "I", false)
  | 43 => ("OwnChairModel", "open", "I", false)
  | 44 => ("OwnChairModel", "ops", "[I", true)
  | 45 => ("OwnChairModel", "opMany", "I", false)
  | 46 => ("OwnChairModel", "operand", "Z", false)
  | 47 => ("OwnChairModel", "refused", "[I", true)
  | 48 => ("OwnChairModel", "roomOf", "[I", true)
  | 49 => ("OwnChairModel", "chairOf", "[I", true)
  | 50 => ("OwnChairModel", "brokenOf", "[I", true)
  | 51 => ("OwnChairModel", "clockOf", "[I", true)
  | 52 => ("OwnChairModel", "acheOf", "[I", true)
  | 53 => ("OwnChairModel", "keptMany", "[I", true)
  | 54 => ("OwnChairModel", "keptWhose", "[I", true)
  | 55 => ("OwnChairModel", "keptBy", "[I", true)
  | 56 => ("OwnChairModel", "keptRoom", "[I", true)
  | 57 => ("OwnChairModel", "keptMinutes", "[I", true)
  | 58 => ("OwnChairModel", "undoFirst", "I", false)
  | 59 => ("OwnChairModel", "undos", "I", false)
  | 60 => ("OwnChairModel", "seeds", "J", false)
  | 61 => ("OwnChairModel", "stack", "[J", true)
  | 62 => ("OwnChairModel", "askedTakes", "I", false)
  | 63 => ("OwnChairModel", "askedChair", "I", false)
  | 64 => ("OwnChairModel", "askedPerson", "I", false)
  | 65 => ("OwnChairModel", "stepOf", "[I", true)
  | 66 => ("OwnChairModel", "stepBy", "[I", true)
  | 67 => ("OwnChairModel", "restOf", "[I", true)
  | 68 => ("OwnChairModel", "alongMany", "I", false)
  | 69 => ("OwnChairModel", "alongRow", "[I", true)
  | 70 => ("OwnChairModel", "isTold", "Z", false)
  | 71 => ("OwnChairModel", "whereOf", "[I", true)
  | 72 => ("OwnChairModel", "rows", "I", false)
  | 73 => ("OwnChairModel", "rowRoom", "[I", true)
  | 74 => ("OwnChairModel", "rowMany", "[I", true)
  | 75 => ("OwnChairModel", "ways", "[I", true)
  | 76 => ("OwnChairModel", "then", "[I", true)
  | 77 => ("OwnChairModel", "digitOf", "[I", true)
  | 78 => ("OwnChairModel", "out", "[I", true)
  | _ => ("OwnChairModel", "outs", "I", false)
def tyX12 : Nat → FieldType := fun k => match k with
  | 0 => .array .int
  | 1 => .int
  | 2 => .int
  | 3 => .int
  | 4 => .int
  | 5 => .int
  | 6 => .int
  | 7 => .long
  | 8 => .int
  | 9 => .int
  | 10 => .int
  | 11 => .int
  | 12 => .int
  | 13 => .int
  | 14 => .int
  | 15 => .array .int
  | 16 => .array .int
  | 17 => .array .int
  | 18 => .array .int
  | 19 => .array .int
  | 20 => .array .int
  | 21 => .array .int
  | 22 => .array .int
  | 23 => .array .int
  | 24 => .array .int
  | 25 => .array .int
  | 26 => .array .int
  | 27 => .array .int
  | 28 => .array .int
  | 29 => .array .int
  | 30 => .array .int
  | 31 => .array .int
  | 32 => .array .int
  | 33 => .array .long
  | 34 => .array .long
  | 35 => .int
  | 36 => .int
  | 37 => .array .int
  | 38 => .array .int
  | 39 => .array .boolean
  | 40 => .array .int
  | 41 => .array .int
  | 42 => .int
  | 43 => .int
  | 44 => .array .int
  | 45 => .int
  | 46 => .boolean
  | 47 => .array .int
  | 48 => .array .int
  | 49 => .array .int
  | 50 => .array .int
  | 51 => .array .int
  | 52 => .array .int
  | 53 => .array .int
  | 54 => .array .int
  | 55 => .array .int
  | 56 => .array .int
  | 57 => .array .int
  | 58 => .int
  | 59 => .int
  | 60 => .long
  | 61 => .array .long
  | 62 => .int
  | 63 => .int
  | 64 => .int
  | 65 => .array .int
  | 66 => .array .int
  | 67 => .array .int
  | 68 => .int
  | 69 => .array .int
  | 70 => .boolean
  | 71 => .array .int
  | 72 => .int
  | 73 => .array .int
  | 74 => .array .int
  | 75 => .array .int
  | 76 => .array .int
  | 77 => .array .int
  | 78 => .array .int
  | _ => .int
theorem nmX12 : ∀ a, a < 80 → ∀ b, b < 80 → a ≠ b → (TX12 a).2.1 ≠ (TX12 b).2.1 := by decide +kernel
theorem tyX12_ok : ∀ k, k < 80 → parseFieldDescriptor (TX12 k).2.2.1 = some (tyX12 k) := by decide +kernel
def k_cl : List vw_C := [(RX0, TX0, 3), (RX1, TX1, 3), (RX2, TX2, 3), (RX3, TX3, 8), (RX4, TX4, 7), (RX5, TX5, 4), (RX6, TX6, 8), (RX7, TX7, 1), (RX8, TX8, 2), (RX9, TX9, 16), (RX10, TX10, 3), (RX11, TX11, 13), (RX12, TX12, 80)]
def k_cls : List (List Nat) := [[12, 12, 0], [12, 2, 0], [12, 0, 0], [2, 0, 0, 0, 0, 0, 0, 0], [12, 12, 12, 12, 0, 0, 0], [2, 2, 12, 12], [12, 12, 12, 12, 12, 12, 3, 0], [12], [12, 0], [0, 0, 0, 0, 12, 12, 12, 12, 12, 12, 12, 12, 12, 12, 12, 12], [12, 12, 0], [12, 12, 12, 12, 12, 12, 12, 12, 12, 0, 0, 0, 0], [12, 0, 0, 0, 0, 0, 0, 1, 0, 0, 0, 0, 0, 0, 0, 12, 12, 12, 12, 12, 12, 12, 12, 12, 12, 12, 12, 12, 12, 12, 12, 12, 12, 12, 12, 0, 0, 12, 12, 12, 12, 12, 0, 0, 12, 0, 3, 12, 12, 12, 12, 12, 12, 12, 12, 12, 12, 12, 0, 0, 1, 12, 0, 0, 0, 12, 12, 12, 0, 12, 3, 12, 0, 12, 12, 12, 12, 12, 12, 0]]
abbrev xR : Type := List (List (Nat × Instr × Nat)) × List (Nat × Nat × Nat × Int) × (Nat × Nat × Nat × Nat × Nat) × MethodName × ByteArray × Option FieldType
def k_none : xR := ([], [], (0, 0, 0, 0, 0), ⟨"", "", ""⟩, ByteArray.empty, none)
def k_find {α : Type} : List (Nat × α) → Nat → Option α
  | [], _ => none
  | q :: l, i => match Nat.beq q.1 i with
    | true => some q.2
    | false => k_find l i
def RJx8e188 : String := "java/lang/Cloneable"
def RJ6 : String := "java/lang/Integer"
def RJ9 : String := "java/lang/Math"
def RJ10 : String := "java/lang/System"
def RJ7 : String := "java/util/Arrays"
def RL : String := "OwnChairLaw"
abbrev cL_law : ByteArray := code
def yL_law : MethodName := ⟨RL, "law", "([I)Z"⟩
def kc_0 : List (List (Nat × Instr × Nat)) := [[(0, .new 7, 3), (3, .dup, 1), (4, .invokespecial 9, 3), (7, .astore_n 1, 1), (8, .new 10, 3), (11, .dup, 1), (12, .invokespecial 12, 3), (15, .astore_n 2, 1)], [(16, .iconst 0, 1), (17, .istore_n 3, 1), (18, .iload_n 3, 1), (19, .aload_n 0, 1), (20, .arraylength, 1), (21, .bipush 6, 2), (23, .isub, 1), (24, .if_icmp .gt 1003, 3), (27, .aload_n 0, 1), (28, .iload_n 3, 1), (29, .iaload, 1), (30, .bipush 31, 2)], [(32, .iand, 1), (33, .tableswitch 988 0 28 #[131, 194, 217, 230, 253, 276, 319, 352, 385, 418, 451, 494, 537, 570, 603, 626, 639, 662, 695, 748, 791, 814, 837, 870, 883, 916, 929, 952, 965], 131)], [], [], [], [], [], [], [], [(164, .aload_n 1, 1), (165, .aload_n 0, 1), (166, .iload_n 3, 1), (167, .iconst 1, 1), (168, .iadd, 1), (169, .iaload, 1), (170, .aload_n 0, 1), (171, .iload_n 3, 1), (172, .iconst 2, 1), (173, .iadd, 1), (174, .iaload, 1), (175, .aload_n 0, 1)], [(176, .iload_n 3, 1), (177, .iconst 3, 1), (178, .iadd, 1), (179, .iaload, 1), (180, .aload_n 0, 1), (181, .iload_n 3, 1), (182, .iconst 4, 1), (183, .iadd, 1), (184, .iaload, 1), (185, .aload_n 0, 1), (186, .iload_n 3, 1), (187, .iconst 5, 1), (188, .iadd, 1), (189, .iaload, 1), (190, .invokevirtual 13, 3)], [(193, .aload_n 2, 1), (194, .aload_n 0, 1), (195, .iload_n 3, 1), (196, .iconst 1, 1), (197, .iadd, 1), (198, .iaload, 1), (199, .aload_n 0, 1), (200, .iload_n 3, 1), (201, .iconst 2, 1), (202, .iadd, 1), (203, .iaload, 1), (204, .aload_n 0, 1), (205, .iload_n 3, 1), (206, .iconst 3, 1), (207, .iadd, 1)], [(208, .iaload, 1), (209, .aload_n 0, 1), (210, .iload_n 3, 1), (211, .iconst 4, 1), (212, .iadd, 1), (213, .iaload, 1), (214, .aload_n 0, 1), (215, .iload_n 3, 1), (216, .iconst 5, 1), (217, .iadd, 1), (218, .iaload, 1), (219, .invokevirtual 17, 3), (222, .if_icmp .eq 799, 3)], [(225, .iconst 0, 1), (226, .ireturn, 1), (227, .aload_n 1, 1), (228, .aload_n 0, 1), (229, .iload_n 3, 1), (230, .iconst 1, 1), (231, .iadd, 1), (232, .iaload, 1), (233, .invokevirtual 18, 3), (236, .aload_n 2, 1), (237, .aload_n 0, 1), (238, .iload_n 3, 1), (239, .iconst 1, 1)], [(240, .iadd, 1), (241, .iaload, 1), (242, .invokevirtual 22, 3), (245, .if_icmp .eq 776, 3), (248, .iconst 0, 1), (249, .ireturn, 1), (250, .aload_n 1, 1), (251, .invokevirtual 23, 3), (254, .aload_n 2, 1), (255, .invokevirtual 27, 3)], [(258, .if_icmp .eq 763, 3), (261, .iconst 0, 1), (262, .ireturn, 1), (263, .aload_n 1, 1), (264, .aload_n 0, 1), (265, .iload_n 3, 1), (266, .iconst 1, 1), (267, .iadd, 1), (268, .iaload, 1), (269, .invokevirtual 28, 3)], [(272, .aload_n 2, 1), (273, .aload_n 0, 1), (274, .iload_n 3, 1), (275, .iconst 1, 1), (276, .iadd, 1), (277, .iaload, 1), (278, .invokevirtual 32, 3), (281, .if_icmp .eq 740, 3), (284, .iconst 0, 1), (285, .ireturn, 1), (286, .aload_n 1, 1), (287, .aload_n 0, 1)], [(288, .iload_n 3, 1), (289, .iconst 1, 1), (290, .iadd, 1), (291, .iaload, 1), (292, .invokevirtual 33, 3), (295, .aload_n 2, 1), (296, .aload_n 0, 1), (297, .iload_n 3, 1), (298, .iconst 1, 1), (299, .iadd, 1), (300, .iaload, 1), (301, .invokevirtual 36, 3)], [(304, .if_icmp .eq 717, 3), (307, .iconst 0, 1), (308, .ireturn, 1), (309, .aload_n 1, 1), (310, .aload_n 0, 1), (311, .iload_n 3, 1), (312, .iconst 1, 1), (313, .iadd, 1), (314, .iaload, 1), (315, .aload_n 0, 1), (316, .iload_n 3, 1), (317, .iconst 2, 1), (318, .iadd, 1), (319, .iaload, 1)], [(320, .aload_n 0, 1), (321, .iload_n 3, 1), (322, .iconst 3, 1), (323, .iadd, 1), (324, .iaload, 1), (325, .invokevirtual 37, 3), (328, .aload_n 2, 1), (329, .aload_n 0, 1), (330, .iload_n 3, 1), (331, .iconst 1, 1), (332, .iadd, 1), (333, .iaload, 1), (334, .aload_n 0, 1), (335, .iload_n 3, 1)], [(336, .iconst 2, 1), (337, .iadd, 1), (338, .iaload, 1), (339, .aload_n 0, 1), (340, .iload_n 3, 1), (341, .iconst 3, 1), (342, .iadd, 1), (343, .iaload, 1), (344, .invokevirtual 41, 3), (347, .if_icmp .eq 674, 3), (350, .iconst 0, 1), (351, .ireturn, 1)], [(352, .aload_n 1, 1), (353, .aload_n 0, 1), (354, .iload_n 3, 1), (355, .iconst 1, 1), (356, .iadd, 1), (357, .iaload, 1), (358, .aload_n 0, 1), (359, .iload_n 3, 1), (360, .iconst 2, 1), (361, .iadd, 1), (362, .iaload, 1), (363, .invokevirtual 42, 3), (366, .aload_n 2, 1), (367, .aload_n 0, 1)], [(368, .iload_n 3, 1), (369, .iconst 1, 1), (370, .iadd, 1), (371, .iaload, 1), (372, .aload_n 0, 1), (373, .iload_n 3, 1), (374, .iconst 2, 1), (375, .iadd, 1), (376, .iaload, 1), (377, .invokevirtual 46, 3), (380, .if_icmp .eq 641, 3), (383, .iconst 0, 1)], [(384, .ireturn, 1), (385, .aload_n 1, 1), (386, .aload_n 0, 1), (387, .iload_n 3, 1), (388, .iconst 1, 1), (389, .iadd, 1), (390, .iaload, 1), (391, .aload_n 0, 1), (392, .iload_n 3, 1), (393, .iconst 2, 1), (394, .iadd, 1), (395, .iaload, 1), (396, .invokevirtual 47, 3), (399, .aload_n 2, 1)], [(400, .aload_n 0, 1), (401, .iload_n 3, 1), (402, .iconst 1, 1), (403, .iadd, 1), (404, .iaload, 1), (405, .aload_n 0, 1), (406, .iload_n 3, 1), (407, .iconst 2, 1), (408, .iadd, 1), (409, .iaload, 1), (410, .invokevirtual 50, 3), (413, .if_icmp .eq 608, 3)], [(416, .iconst 0, 1), (417, .ireturn, 1), (418, .aload_n 1, 1), (419, .aload_n 0, 1), (420, .iload_n 3, 1), (421, .iconst 1, 1), (422, .iadd, 1), (423, .iaload, 1), (424, .aload_n 0, 1), (425, .iload_n 3, 1), (426, .iconst 2, 1), (427, .iadd, 1), (428, .iaload, 1), (429, .invokevirtual 51, 3)], [(432, .aload_n 2, 1), (433, .aload_n 0, 1), (434, .iload_n 3, 1), (435, .iconst 1, 1), (436, .iadd, 1), (437, .iaload, 1), (438, .aload_n 0, 1), (439, .iload_n 3, 1), (440, .iconst 2, 1), (441, .iadd, 1), (442, .iaload, 1), (443, .invokevirtual 54, 3), (446, .if_icmp .eq 575, 3)], [(449, .iconst 0, 1), (450, .ireturn, 1), (451, .aload_n 1, 1), (452, .aload_n 0, 1), (453, .iload_n 3, 1), (454, .iconst 1, 1), (455, .iadd, 1), (456, .iaload, 1), (457, .aload_n 0, 1), (458, .iload_n 3, 1), (459, .iconst 2, 1), (460, .iadd, 1), (461, .iaload, 1), (462, .invokevirtual 55, 3)], [(465, .aload_n 2, 1), (466, .aload_n 0, 1), (467, .iload_n 3, 1), (468, .iconst 1, 1), (469, .iadd, 1), (470, .iaload, 1), (471, .aload_n 0, 1), (472, .iload_n 3, 1), (473, .iconst 2, 1), (474, .iadd, 1), (475, .iaload, 1), (476, .invokevirtual 58, 3), (479, .if_icmp .eq 542, 3)], [(482, .iconst 0, 1), (483, .ireturn, 1), (484, .aload_n 1, 1), (485, .aload_n 0, 1), (486, .iload_n 3, 1), (487, .iconst 1, 1), (488, .iadd, 1), (489, .iaload, 1), (490, .aload_n 0, 1), (491, .iload_n 3, 1), (492, .iconst 2, 1), (493, .iadd, 1), (494, .iaload, 1), (495, .aload_n 0, 1)], [(496, .iload_n 3, 1), (497, .iconst 3, 1), (498, .iadd, 1), (499, .iaload, 1), (500, .invokevirtual 59, 3), (503, .aload_n 2, 1), (504, .aload_n 0, 1), (505, .iload_n 3, 1), (506, .iconst 1, 1), (507, .iadd, 1), (508, .iaload, 1), (509, .aload_n 0, 1), (510, .iload_n 3, 1), (511, .iconst 2, 1)], [(512, .iadd, 1), (513, .iaload, 1), (514, .aload_n 0, 1), (515, .iload_n 3, 1), (516, .iconst 3, 1), (517, .iadd, 1), (518, .iaload, 1), (519, .invokevirtual 62, 3), (522, .if_icmp .eq 499, 3), (525, .iconst 0, 1), (526, .ireturn, 1), (527, .aload_n 1, 1)], [(528, .aload_n 0, 1), (529, .iload_n 3, 1), (530, .iconst 1, 1), (531, .iadd, 1), (532, .iaload, 1), (533, .aload_n 0, 1), (534, .iload_n 3, 1), (535, .iconst 2, 1), (536, .iadd, 1), (537, .iaload, 1), (538, .aload_n 0, 1), (539, .iload_n 3, 1), (540, .iconst 3, 1), (541, .iadd, 1), (542, .iaload, 1), (543, .invokevirtual 63, 3)], [(546, .aload_n 2, 1), (547, .aload_n 0, 1), (548, .iload_n 3, 1), (549, .iconst 1, 1), (550, .iadd, 1), (551, .iaload, 1), (552, .aload_n 0, 1), (553, .iload_n 3, 1), (554, .iconst 2, 1), (555, .iadd, 1), (556, .iaload, 1), (557, .aload_n 0, 1), (558, .iload_n 3, 1), (559, .iconst 3, 1)], [(560, .iadd, 1), (561, .iaload, 1), (562, .invokevirtual 66, 3), (565, .if_icmp .eq 456, 3), (568, .iconst 0, 1), (569, .ireturn, 1), (570, .aload_n 1, 1), (571, .aload_n 0, 1), (572, .iload_n 3, 1), (573, .iconst 1, 1), (574, .iadd, 1), (575, .iaload, 1)], [(576, .aload_n 0, 1), (577, .iload_n 3, 1), (578, .iconst 2, 1), (579, .iadd, 1), (580, .iaload, 1), (581, .invokevirtual 67, 3), (584, .aload_n 2, 1), (585, .aload_n 0, 1), (586, .iload_n 3, 1), (587, .iconst 1, 1), (588, .iadd, 1), (589, .iaload, 1), (590, .aload_n 0, 1), (591, .iload_n 3, 1)], [(592, .iconst 2, 1), (593, .iadd, 1), (594, .iaload, 1), (595, .invokevirtual 70, 3), (598, .if_icmp .eq 423, 3), (601, .iconst 0, 1), (602, .ireturn, 1), (603, .aload_n 1, 1), (604, .aload_n 0, 1), (605, .iload_n 3, 1), (606, .iconst 1, 1), (607, .iadd, 1)], [(608, .iaload, 1), (609, .aload_n 0, 1), (610, .iload_n 3, 1), (611, .iconst 2, 1), (612, .iadd, 1), (613, .iaload, 1), (614, .invokevirtual 71, 3), (617, .aload_n 2, 1), (618, .aload_n 0, 1), (619, .iload_n 3, 1), (620, .iconst 1, 1), (621, .iadd, 1), (622, .iaload, 1), (623, .aload_n 0, 1)], [(624, .iload_n 3, 1), (625, .iconst 2, 1), (626, .iadd, 1), (627, .iaload, 1), (628, .invokevirtual 75, 3), (631, .if_icmp .eq 390, 3), (634, .iconst 0, 1), (635, .ireturn, 1), (636, .aload_n 1, 1), (637, .aload_n 0, 1), (638, .iload_n 3, 1), (639, .iconst 1, 1)], [(640, .iadd, 1), (641, .iaload, 1), (642, .invokevirtual 76, 3), (645, .aload_n 2, 1), (646, .aload_n 0, 1), (647, .iload_n 3, 1), (648, .iconst 1, 1), (649, .iadd, 1), (650, .iaload, 1), (651, .invokevirtual 79, 3), (654, .if_icmp .eq 367, 3)], [(657, .iconst 0, 1), (658, .ireturn, 1), (659, .aload_n 1, 1), (660, .invokevirtual 80, 3), (663, .aload_n 2, 1), (664, .invokevirtual 84, 3), (667, .if_icmp .eq 354, 3), (670, .iconst 0, 1), (671, .ireturn, 1)], [(672, .aload_n 1, 1), (673, .aload_n 0, 1), (674, .iload_n 3, 1), (675, .iconst 1, 1), (676, .iadd, 1), (677, .iaload, 1), (678, .invokevirtual 85, 3), (681, .aload_n 2, 1), (682, .aload_n 0, 1), (683, .iload_n 3, 1), (684, .iconst 1, 1), (685, .iadd, 1), (686, .iaload, 1), (687, .invokevirtual 88, 3)], [(690, .if_icmp .eq 331, 3), (693, .iconst 0, 1), (694, .ireturn, 1), (695, .aload_n 1, 1), (696, .aload_n 0, 1), (697, .iload_n 3, 1), (698, .iconst 1, 1), (699, .iadd, 1), (700, .iaload, 1), (701, .aload_n 0, 1), (702, .iload_n 3, 1), (703, .iconst 2, 1)], [(704, .iadd, 1), (705, .iaload, 1), (706, .invokevirtual 89, 3), (709, .aload_n 2, 1), (710, .aload_n 0, 1), (711, .iload_n 3, 1), (712, .iconst 1, 1), (713, .iadd, 1), (714, .iaload, 1), (715, .aload_n 0, 1), (716, .iload_n 3, 1), (717, .iconst 2, 1), (718, .iadd, 1), (719, .iaload, 1)], [(720, .invokevirtual 92, 3), (723, .if_icmp .eq 298, 3), (726, .iconst 0, 1), (727, .ireturn, 1), (728, .aload_n 1, 1), (729, .aload_n 0, 1), (730, .iload_n 3, 1), (731, .iconst 1, 1), (732, .iadd, 1), (733, .iaload, 1), (734, .aload_n 0, 1), (735, .iload_n 3, 1)], [(736, .iconst 2, 1), (737, .iadd, 1), (738, .iaload, 1), (739, .aload_n 0, 1), (740, .iload_n 3, 1), (741, .iconst 3, 1), (742, .iadd, 1), (743, .iaload, 1), (744, .aload_n 0, 1), (745, .iload_n 3, 1), (746, .iconst 4, 1), (747, .iadd, 1), (748, .iaload, 1), (749, .invokevirtual 93, 3)], [(752, .aload_n 2, 1), (753, .aload_n 0, 1), (754, .iload_n 3, 1), (755, .iconst 1, 1), (756, .iadd, 1), (757, .iaload, 1), (758, .aload_n 0, 1), (759, .iload_n 3, 1), (760, .iconst 2, 1), (761, .iadd, 1), (762, .iaload, 1), (763, .aload_n 0, 1), (764, .iload_n 3, 1), (765, .iconst 3, 1), (766, .iadd, 1), (767, .iaload, 1)], [(768, .aload_n 0, 1), (769, .iload_n 3, 1), (770, .iconst 4, 1), (771, .iadd, 1), (772, .iaload, 1), (773, .invokevirtual 97, 3), (776, .if_icmp .eq 245, 3), (779, .iconst 0, 1), (780, .ireturn, 1), (781, .aload_n 1, 1), (782, .aload_n 0, 1), (783, .iload_n 3, 1)], [(784, .iconst 1, 1), (785, .iadd, 1), (786, .iaload, 1), (787, .aload_n 0, 1), (788, .iload_n 3, 1), (789, .iconst 2, 1), (790, .iadd, 1), (791, .iaload, 1), (792, .aload_n 0, 1), (793, .iload_n 3, 1), (794, .iconst 3, 1), (795, .iadd, 1), (796, .iaload, 1), (797, .invokevirtual 98, 3)], [(800, .aload_n 2, 1), (801, .aload_n 0, 1), (802, .iload_n 3, 1), (803, .iconst 1, 1), (804, .iadd, 1), (805, .iaload, 1), (806, .aload_n 0, 1), (807, .iload_n 3, 1), (808, .iconst 2, 1), (809, .iadd, 1), (810, .iaload, 1), (811, .aload_n 0, 1), (812, .iload_n 3, 1), (813, .iconst 3, 1), (814, .iadd, 1), (815, .iaload, 1)], [(816, .invokevirtual 101, 3), (819, .if_icmp .eq 202, 3), (822, .iconst 0, 1), (823, .ireturn, 1), (824, .aload_n 1, 1), (825, .aload_n 0, 1), (826, .iload_n 3, 1), (827, .iconst 1, 1), (828, .iadd, 1), (829, .iaload, 1), (830, .invokevirtual 102, 3)], [(833, .aload_n 2, 1), (834, .aload_n 0, 1), (835, .iload_n 3, 1), (836, .iconst 1, 1), (837, .iadd, 1), (838, .iaload, 1), (839, .invokevirtual 105, 3), (842, .if_icmp .eq 179, 3), (845, .iconst 0, 1), (846, .ireturn, 1), (847, .aload_n 1, 1)], [(848, .aload_n 0, 1), (849, .iload_n 3, 1), (850, .iconst 1, 1), (851, .iadd, 1), (852, .iaload, 1), (853, .invokevirtual 106, 3), (856, .aload_n 2, 1), (857, .aload_n 0, 1), (858, .iload_n 3, 1), (859, .iconst 1, 1), (860, .iadd, 1), (861, .iaload, 1), (862, .invokevirtual 109, 3)], [(865, .if_icmp .eq 156, 3), (868, .iconst 0, 1), (869, .ireturn, 1), (870, .aload_n 1, 1), (871, .aload_n 0, 1), (872, .iload_n 3, 1), (873, .iconst 1, 1), (874, .iadd, 1), (875, .iaload, 1), (876, .aload_n 0, 1), (877, .iload_n 3, 1), (878, .iconst 2, 1), (879, .iadd, 1)], [(880, .iaload, 1), (881, .invokevirtual 110, 3), (884, .aload_n 2, 1), (885, .aload_n 0, 1), (886, .iload_n 3, 1), (887, .iconst 1, 1), (888, .iadd, 1), (889, .iaload, 1), (890, .aload_n 0, 1), (891, .iload_n 3, 1), (892, .iconst 2, 1), (893, .iadd, 1), (894, .iaload, 1), (895, .invokevirtual 113, 3)], [(898, .if_icmp .eq 123, 3), (901, .iconst 0, 1), (902, .ireturn, 1), (903, .aload_n 1, 1), (904, .invokevirtual 114, 3), (907, .aload_n 2, 1), (908, .invokevirtual 117, 3), (911, .if_icmp .eq 110, 3)], [(914, .iconst 0, 1), (915, .ireturn, 1), (916, .aload_n 1, 1), (917, .aload_n 0, 1), (918, .iload_n 3, 1), (919, .iconst 1, 1), (920, .iadd, 1), (921, .iaload, 1), (922, .aload_n 0, 1), (923, .iload_n 3, 1), (924, .iconst 2, 1), (925, .iadd, 1), (926, .iaload, 1), (927, .invokevirtual 118, 3)], [(930, .aload_n 2, 1), (931, .aload_n 0, 1), (932, .iload_n 3, 1), (933, .iconst 1, 1), (934, .iadd, 1), (935, .iaload, 1), (936, .aload_n 0, 1), (937, .iload_n 3, 1), (938, .iconst 2, 1), (939, .iadd, 1), (940, .iaload, 1), (941, .invokevirtual 121, 3)], [(944, .if_icmp .eq 77, 3), (947, .iconst 0, 1), (948, .ireturn, 1), (949, .aload_n 1, 1), (950, .invokevirtual 122, 3), (953, .aload_n 2, 1), (954, .invokevirtual 125, 3), (957, .if_icmp .eq 64, 3)], [(960, .iconst 0, 1), (961, .ireturn, 1), (962, .aload_n 1, 1), (963, .aload_n 0, 1), (964, .iload_n 3, 1), (965, .iconst 1, 1), (966, .iadd, 1), (967, .iaload, 1), (968, .invokevirtual 126, 3), (971, .aload_n 2, 1), (972, .aload_n 0, 1), (973, .iload_n 3, 1), (974, .iconst 1, 1), (975, .iadd, 1)], [(976, .iaload, 1), (977, .invokevirtual 129, 3), (980, .if_icmp .eq 41, 3), (983, .iconst 0, 1), (984, .ireturn, 1), (985, .aload_n 1, 1), (986, .invokevirtual 130, 3), (989, .aload_n 2, 1), (990, .invokevirtual 133, 3)], [(993, .if_icmp .eq 28, 3), (996, .iconst 0, 1), (997, .ireturn, 1), (998, .aload_n 1, 1), (999, .aload_n 0, 1), (1000, .iload_n 3, 1), (1001, .iconst 1, 1), (1002, .iadd, 1), (1003, .iaload, 1), (1004, .invokevirtual 134, 3), (1007, .aload_n 2, 1)], [(1008, .aload_n 0, 1), (1009, .iload_n 3, 1), (1010, .iconst 1, 1), (1011, .iadd, 1), (1012, .iaload, 1), (1013, .invokevirtual 137, 3), (1016, .if_icmp .eq 5, 3), (1019, .iconst 0, 1), (1020, .ireturn, 1), (1021, .iinc 3 6, 3)], [(1024, .goto (-1006), 3), (1027, .iconst 1, 1), (1028, .ireturn, 1)]]
def kp_0 : List (Nat × Nat × Nat × Int) := [(7, 9, 11, 0), (9, 3, 135, 0), (10, 9, 12, 0), (12, 3, 171, 0), (13, 2, 136, 5), (17, 2, 174, 5), (18, 2, 137, 1), (22, 2, 175, 1), (23, 2, 138, 0), (27, 2, 216, 0), (28, 2, 139, 1), (32, 2, 217, 1), (33, 2, 140, 1), (36, 2, 246, 1), (37, 2, 141, 3), (41, 2, 247, 3), (42, 2, 142, 2), (46, 2, 248, 2), (47, 2, 143, 2), (50, 2, 249, 2), (51, 2, 144, 2), (54, 2, 250, 2), (55, 2, 145, 2), (58, 2, 251, 2), (59, 2, 146, 3), (62, 2, 255, 3), (63, 2, 147, 3), (66, 2, 260, 3), (67, 2, 148, 2), (70, 2, 262, 2), (71, 2, 149, 2), (75, 2, 263, 2), (76, 2, 150, 1), (79, 2, 266, 1), (80, 2, 151, 0), (84, 2, 228, 0), (85, 2, 152, 1), (88, 2, 267, 1), (89, 2, 153, 2), (92, 2, 268, 2), (93, 2, 154, 4), (97, 2, 273, 4), (98, 2, 155, 3), (101, 2, 274, 3), (102, 2, 156, 1), (105, 2, 277, 1), (106, 2, 157, 1), (109, 2, 278, 1), (110, 2, 158, 2), (113, 2, 280, 2), (114, 2, 159, 0), (117, 2, 284, 0), (118, 2, 160, 2), (121, 2, 285, 2), (122, 2, 161, 0), (125, 2, 288, 0), (126, 2, 162, 1), (129, 2, 289, 1), (130, 2, 163, 0), (133, 2, 293, 0), (134, 2, 164, 1), (137, 2, 219, 1)]
def kr_0 : xR := (kc_0, kp_0, (4, 2, 600000, 7302250, 999), yL_law, cL_law, (some .boolean))
abbrev cX0_init : ByteArray := prog_2_method_1_code
def yX0_init : MethodName := ⟨RX0, "<init>", "()V"⟩
def kc_1 : List (List (Nat × Instr × Nat)) := [[(0, .aload_n 0, 1), (1, .invokespecial 3, 3), (4, .aload_n 0, 1), (5, .bipush 104, 2), (7, .newarray .int, 2), (9, .putfield 9, 3), (12, .aload_n 0, 1), (13, .bipush 12, 2), (15, .newarray .int, 2)], [(17, .putfield 15, 3), (20, .aload_n 0, 1), (21, .iconst 0, 1), (22, .putfield 18, 3), (25, .return_, 1)]]
def kp_1 : List (Nat × Nat × Nat × Int) := [(3, 5, 0, 0), (9, 1, 0, 0), (15, 1, 0, 1), (18, 1, 0, 2)]
def kr_1 : xR := (kc_1, kp_1, (1, 0, 2, 116, 0), yX0_init, cX0_init, none)
abbrev cX0_isTold : ByteArray := prog_2_method_2_code
def yX0_isTold : MethodName := ⟨RX0, "isTold", "(LOwnChair$Scene;LOwnChair$Tape;I)Z"⟩
def kc_2 : List (List (Nat × Instr × Nat)) := [[(0, .aload_n 2, 1), (1, .getfield 22, 3), (4, .iconst 2, 1), (5, .if_icmp .lt 25, 3), (8, .aload_n 2, 1), (9, .getfield 22, 3), (12, .bipush 24, 2), (14, .if_icmp .gt 16, 3)], [(17, .aload_n 2, 1), (18, .getfield 22, 3), (21, .iconst 2, 1), (22, .irem, 1), (23, .ifCond .ne 7, 3), (26, .iconst 1, 1), (27, .goto 4, 3), (30, .iconst 0, 1), (31, .istore 4, 2)], [(33, .aload_n 1, 1), (34, .getfield 27, 3), (37, .iload_n 3, 1), (38, .invokevirtual 33, 3), (41, .ifCond .eq 8, 3), (44, .iload 4, 2), (46, .ifCond .ne 5, 3)], [(49, .iconst 0, 1), (50, .ireturn, 1), (51, .aload_n 1, 1), (52, .iload_n 3, 1), (53, .invokevirtual 39, 3), (56, .istore 5, 2), (58, .iconst 0, 1), (59, .istore 6, 2), (61, .iload 6, 2), (63, .iconst 1, 1)], [(64, .iadd, 1), (65, .aload_n 2, 1), (66, .getfield 22, 3), (69, .if_icmp .ge 52, 3), (72, .aload_n 1, 1), (73, .getfield 27, 3), (76, .iload 5, 2), (78, .aload_n 2, 1), (79, .getfield 43, 3)], [(82, .iload 6, 2), (84, .iaload, 1), (85, .invokevirtual 46, 3), (88, .ifCond .eq 16, 3), (91, .aload_n 2, 1), (92, .getfield 43, 3), (95, .iload 6, 2)], [(97, .iconst 1, 1), (98, .iadd, 1), (99, .iaload, 1), (100, .iconst 1, 1), (101, .if_icmp .le 5, 3), (104, .iconst 0, 1), (105, .ireturn, 1), (106, .aload_n 2, 1), (107, .getfield 43, 3), (110, .iload 6, 2)], [(112, .iaload, 1), (113, .istore 5, 2), (115, .iinc 6 2, 3), (118, .goto (-57), 3), (121, .iconst 1, 1), (122, .ireturn, 1)]]
def kp_2 : List (Nat × Nat × Nat × Int) := [(22, 1, 8, 1), (27, 1, 5, 0), (33, 2, 107, 1), (39, 2, 43, 1), (43, 1, 8, 0), (46, 2, 117, 2)]
def kr_2 : xR := (kc_2, kp_2, (7, 2, 0, 0, 0), yX0_isTold, cX0_isTold, (some .boolean))
abbrev cX1_init : ByteArray := prog_3_method_1_code
def yX1_init : MethodName := ⟨RX1, "<init>", "()V"⟩
def kc_9 : List (List (Nat × Instr × Nat)) := [[(0, .aload_n 0, 1), (1, .invokespecial 3, 3), (4, .aload_n 0, 1), (5, .bipush 64, 2), (7, .newarray .int, 2), (9, .putfield 9, 3), (12, .aload_n 0, 1), (13, .bipush 32, 2), (15, .newarray .int, 2)], [(17, .putfield 15, 3), (20, .aload_n 0, 1), (21, .iconst 0, 1), (22, .putfield 18, 3), (25, .return_, 1)]]
def kp_9 : List (Nat × Nat × Nat × Int) := [(3, 5, 0, 0), (9, 1, 1, 0), (15, 1, 1, 1), (18, 1, 1, 2)]
def kr_9 : xR := (kc_9, kp_9, (1, 0, 2, 96, 1), yX1_init, cX1_init, none)
abbrev cX2_init : ByteArray := prog_4_method_1_code
def yX2_init : MethodName := ⟨RX2, "<init>", "()V"⟩
def kc_15 : List (List (Nat × Instr × Nat)) := [[(0, .aload_n 0, 1), (1, .invokespecial 3, 3), (4, .aload_n 0, 1), (5, .sipush 1620, 3), (8, .newarray .int, 2), (10, .putfield 11, 3), (13, .aload_n 0, 1), (14, .iconst 0, 1), (15, .putfield 17, 3)], [(18, .aload_n 0, 1), (19, .iconst 0, 1), (20, .putfield 21, 3), (23, .return_, 1)]]
def kp_15 : List (Nat × Nat × Nat × Int) := [(3, 5, 0, 0), (11, 1, 2, 0), (17, 1, 2, 1), (21, 1, 2, 2)]
def kr_15 : xR := (kc_15, kp_15, (1, 0, 1, 1620, 2), yX2_init, cX2_init, none)
abbrev cX2_remember : ByteArray := prog_4_method_2_code
def yX2_remember : MethodName := ⟨RX2, "remember", "([I)V"⟩
def kc_16 : List (List (Nat × Instr × Nat)) := [[(0, .aload_n 0, 1), (1, .aload_n 0, 1), (2, .getfield 17, 3), (5, .iconst 1, 1), (6, .iadd, 1), (7, .bipush 20, 2), (9, .irem, 1), (10, .putfield 17, 3), (13, .aload_n 1, 1), (14, .iconst 0, 1), (15, .aload_n 0, 1)], [(16, .getfield 11, 3), (19, .aload_n 0, 1), (20, .getfield 17, 3), (23, .bipush 81, 2), (25, .imul, 1), (26, .bipush 81, 2), (28, .invokestatic 24, 3), (31, .aload_n 0, 1)], [(32, .bipush 20, 2), (34, .aload_n 0, 1), (35, .getfield 21, 3), (38, .iconst 1, 1), (39, .iadd, 1), (40, .invokestatic 30, 3), (43, .putfield 21, 3), (46, .return_, 1)]]
def kp_16 : List (Nat × Nat × Nat × Int) := [(11, 1, 2, 0), (17, 1, 2, 1), (21, 1, 2, 2), (24, 10, 0, 0), (30, 6, 299, 2)]
def kr_16 : xR := (kc_16, kp_16, (2, 0, 0, 0, 2), yX2_remember, cX2_remember, none)
abbrev cX3_init : ByteArray := prog_5_method_1_code
def yX3_init : MethodName := ⟨RX3, "<init>", "()V"⟩
def kc_18 : List (List (Nat × Instr × Nat)) := [[(0, .aload_n 0, 1), (1, .invokespecial 1, 3), (4, .aload_n 0, 1), (5, .iconst 0, 1), (6, .newarray .int, 2), (8, .putfield 7, 3), (11, .aload_n 0, 1), (12, .iconst 0, 1), (13, .putfield 13, 3)], [(16, .aload_n 0, 1), (17, .iconst 0, 1), (18, .putfield 17, 3), (21, .aload_n 0, 1), (22, .iconst 0, 1), (23, .putfield 20, 3), (26, .aload_n 0, 1), (27, .iconst 0, 1), (28, .putfield 23, 3), (31, .aload_n 0, 1)], [(32, .iconst 0, 1), (33, .putfield 26, 3), (36, .aload_n 0, 1), (37, .iconst 0, 1), (38, .putfield 29, 3), (41, .aload_n 0, 1), (42, .iconst 0, 1), (43, .putfield 32, 3), (46, .return_, 1)]]
def kp_18 : List (Nat × Nat × Nat × Int) := [(1, 5, 0, 0), (7, 1, 3, 0), (13, 1, 3, 1), (17, 1, 3, 2), (20, 1, 3, 3), (23, 1, 3, 4), (26, 1, 3, 5), (29, 1, 3, 6), (32, 1, 3, 7)]
def kr_18 : xR := (kc_18, kp_18, (1, 0, 1, 0, 3), yX3_init, cX3_init, none)
abbrev cX3_begin : ByteArray := prog_5_method_2_code
def yX3_begin : MethodName := ⟨RX3, "begin", "(LOwnChair$Tape;)V"⟩
def kc_19 : List (List (Nat × Instr × Nat)) := [[(0, .aload_n 0, 1), (1, .aload_n 1, 1), (2, .getfield 35, 3), (5, .putfield 7, 3), (8, .aload_n 0, 1), (9, .aload_n 1, 1), (10, .getfield 40, 3), (13, .aload_n 1, 1), (14, .getfield 35, 3)], [(17, .arraylength, 1), (18, .invokestatic 41, 3), (21, .putfield 13, 3), (24, .aload_n 0, 1), (25, .iconst 0, 1), (26, .putfield 17, 3), (29, .aload_n 0, 1), (30, .iconst 0, 1), (31, .putfield 20, 3)], [(34, .aload_n 0, 1), (35, .iconst 0, 1), (36, .putfield 29, 3), (39, .return_, 1)]]
def kp_19 : List (Nat × Nat × Nat × Int) := [(7, 1, 3, 0), (13, 1, 3, 1), (17, 1, 3, 2), (20, 1, 3, 3), (29, 1, 3, 6), (35, 1, 8, 0), (40, 1, 8, 1), (41, 6, 299, 2)]
def kr_19 : xR := (kc_19, kp_19, (2, 0, 0, 0, 3), yX3_begin, cX3_begin, none)
abbrev cX3_atEnd : ByteArray := prog_5_method_8_code
def yX3_atEnd : MethodName := ⟨RX3, "atEnd", "()Z"⟩
def kc_25 : List (List (Nat × Instr × Nat)) := [[(0, .aload_n 0, 1), (1, .getfield 17, 3), (4, .aload_n 0, 1), (5, .getfield 13, 3), (8, .if_icmp .ge 44, 3), (11, .aload_n 0, 1), (12, .getfield 7, 3), (15, .aload_n 0, 1)], [(16, .getfield 17, 3), (19, .iaload, 1), (20, .bipush 10, 2), (22, .if_icmp .eq 17, 3), (25, .aload_n 0, 1), (26, .getfield 7, 3), (29, .aload_n 0, 1), (30, .getfield 17, 3)], [(33, .iaload, 1), (34, .bipush 32, 2), (36, .if_icmp .ne 16, 3), (39, .aload_n 0, 1), (40, .dup, 1), (41, .getfield 17, 3), (44, .iconst 1, 1), (45, .iadd, 1), (46, .putfield 17, 3)], [(49, .goto (-49), 3), (52, .aload_n 0, 1), (53, .getfield 17, 3), (56, .aload_n 0, 1), (57, .getfield 13, 3), (60, .if_icmp .lt 7, 3), (63, .iconst 1, 1)], [(64, .goto 4, 3), (67, .iconst 0, 1), (68, .ireturn, 1)]]
def kp_25 : List (Nat × Nat × Nat × Int) := [(7, 1, 3, 0), (13, 1, 3, 1), (17, 1, 3, 2)]
def kr_25 : xR := (kc_25, kp_25, (1, 2, 0, 0, 3), yX3_atEnd, cX3_atEnd, (some .boolean))
abbrev cX4_init : ByteArray := prog_6_method_1_code
def yX4_init : MethodName := ⟨RX4, "<init>", "()V"⟩
def kc_32 : List (List (Nat × Instr × Nat)) := [[(0, .aload_n 0, 1), (1, .invokespecial 3, 3), (4, .aload_n 0, 1), (5, .bipush 64, 2), (7, .newarray .int, 2), (9, .putfield 9, 3), (12, .aload_n 0, 1), (13, .bipush 64, 2), (15, .newarray .int, 2)], [(17, .putfield 15, 3), (20, .aload_n 0, 1), (21, .bipush 8, 2), (23, .newarray .int, 2), (25, .putfield 18, 3), (28, .aload_n 0, 1), (29, .bipush 8, 2), (31, .newarray .int, 2)], [(33, .putfield 21, 3), (36, .aload_n 0, 1), (37, .iconst 0, 1), (38, .putfield 24, 3), (41, .aload_n 0, 1), (42, .iconst 0, 1), (43, .putfield 28, 3), (46, .aload_n 0, 1), (47, .iconst (-1), 1)], [(48, .putfield 31, 3), (51, .return_, 1)]]
def kp_32 : List (Nat × Nat × Nat × Int) := [(3, 5, 0, 0), (9, 1, 4, 0), (15, 1, 4, 1), (18, 1, 4, 2), (21, 1, 4, 3), (24, 1, 4, 4), (28, 1, 4, 5), (31, 1, 4, 6)]
def kr_32 : xR := (kc_32, kp_32, (1, 0, 4, 144, 4), yX4_init, cX4_init, none)
abbrev cX5_init : ByteArray := prog_7_method_1_code
def yX5_init : MethodName := ⟨RX5, "<init>", "()V"⟩
def kc_41 : List (List (Nat × Instr × Nat)) := [[(0, .aload_n 0, 1), (1, .invokespecial 5, 3), (4, .aload_n 0, 1), (5, .new 11, 3), (8, .dup, 1), (9, .invokespecial 13, 3), (12, .putfield 14, 3), (15, .aload_n 0, 1)], [(16, .new 11, 3), (19, .dup, 1), (20, .invokespecial 13, 3), (23, .putfield 18, 3), (26, .aload_n 0, 1), (27, .bipush 81, 2), (29, .newarray .int, 2), (31, .putfield 21, 3)], [(34, .aload_n 0, 1), (35, .bipush 6, 2), (37, .newarray .int, 2), (39, .putfield 27, 3), (42, .return_, 1)]]
def kp_41 : List (Nat × Nat × Nat × Int) := [(5, 5, 0, 0), (11, 9, 9, 0), (13, 4, 104, 0), (14, 1, 5, 0), (18, 1, 5, 1), (21, 1, 5, 2), (27, 1, 5, 3)]
def kr_41 : xR := (kc_41, kp_41, (1, 0, 36, 787, 5), yX5_init, cX5_init, none)
abbrev cX5_takeDraft : ByteArray := prog_7_method_2_code
def yX5_takeDraft : MethodName := ⟨RX5, "takeDraft", "()V"⟩
def kc_42 : List (List (Nat × Instr × Nat)) := [[(0, .aload_n 0, 1), (1, .getfield 14, 3), (4, .astore_n 1, 1), (5, .aload_n 0, 1), (6, .aload_n 0, 1), (7, .getfield 18, 3), (10, .putfield 14, 3), (13, .aload_n 0, 1), (14, .aload_n 1, 1), (15, .putfield 18, 3)], [(18, .aload_n 0, 1), (19, .getfield 21, 3), (22, .iconst 0, 1), (23, .invokestatic 30, 3), (26, .iconst 0, 1), (27, .istore_n 2, 1), (28, .iload_n 2, 1), (29, .aload_n 0, 1), (30, .getfield 14, 3)], [(33, .getfield 36, 3), (36, .if_icmp .ge 44, 3), (39, .aload_n 0, 1), (40, .getfield 21, 3), (43, .iconst 0, 1), (44, .iload_n 2, 1), (45, .iadd, 1), (46, .aload_n 0, 1), (47, .getfield 14, 3)], [(50, .getfield 40, 3), (53, .iload_n 2, 1), (54, .iaload, 1), (55, .iastore, 1), (56, .aload_n 0, 1), (57, .getfield 21, 3), (60, .bipush 8, 2), (62, .iload_n 2, 1), (63, .iadd, 1)], [(64, .aload_n 0, 1), (65, .getfield 14, 3), (68, .getfield 40, 3), (71, .iload_n 2, 1), (72, .iaload, 1), (73, .iastore, 1), (74, .iinc 2 1, 3), (77, .goto (-49), 3)], [(80, .return_, 1)]]
def kp_42 : List (Nat × Nat × Nat × Int) := [(14, 1, 5, 0), (18, 1, 5, 1), (21, 1, 5, 2), (30, 6, 301, 2), (36, 1, 9, 1), (40, 1, 9, 13)]
def kr_42 : xR := (kc_42, kp_42, (3, 0, 0, 0, 5), yX5_takeDraft, cX5_takeDraft, none)
abbrev cX5_keptCount : ByteArray := prog_7_method_8_code
def yX5_keptCount : MethodName := ⟨RX5, "keptCount", "()I"⟩
def kc_48 : List (List (Nat × Instr × Nat)) := [[(0, .aload_n 0, 1), (1, .getfield 21, 3), (4, .bipush 40, 2), (6, .iaload, 1), (7, .ireturn, 1)]]
def kp_48 : List (Nat × Nat × Nat × Int) := [(21, 1, 5, 2)]
def kr_48 : xR := (kc_48, kp_48, (1, 1, 0, 0, 5), yX5_keptCount, cX5_keptCount, (some .int))
abbrev cX5_sitting : ByteArray := prog_7_method_9_code
def yX5_sitting : MethodName := ⟨RX5, "sitting", "()I"⟩
def kc_49 : List (List (Nat × Instr × Nat)) := [[(0, .iconst 0, 1), (1, .istore_n 1, 1), (2, .iconst 0, 1), (3, .istore_n 2, 1), (4, .iload_n 2, 1), (5, .aload_n 0, 1), (6, .getfield 14, 3), (9, .getfield 36, 3), (12, .if_icmp .ge 25, 3), (15, .iload_n 1, 1)], [(16, .aload_n 0, 1), (17, .iload_n 2, 1), (18, .invokevirtual 43, 3), (21, .ifCond .eq 7, 3), (24, .iconst 1, 1), (25, .goto 4, 3), (28, .iconst 0, 1), (29, .iadd, 1), (30, .istore_n 1, 1), (31, .iinc 2 1, 3)], [(34, .goto (-30), 3), (37, .iload_n 1, 1), (38, .ireturn, 1)]]
def kp_49 : List (Nat × Nat × Nat × Int) := [(14, 1, 5, 0), (36, 1, 9, 1), (43, 2, 58, 1)]
def kr_49 : xR := (kc_49, kp_49, (3, 1, 0, 0, 5), yX5_sitting, cX5_sitting, (some .int))
abbrev cX5_brokenChairs : ByteArray := prog_7_method_10_code
def yX5_brokenChairs : MethodName := ⟨RX5, "brokenChairs", "()I"⟩
def kc_50 : List (List (Nat × Instr × Nat)) := [[(0, .iconst 0, 1), (1, .istore_n 1, 1), (2, .iconst 0, 1), (3, .istore_n 2, 1), (4, .iload_n 2, 1), (5, .aload_n 0, 1), (6, .getfield 14, 3), (9, .getfield 36, 3), (12, .if_icmp .ge 25, 3), (15, .iload_n 1, 1)], [(16, .aload_n 0, 1), (17, .iload_n 2, 1), (18, .invokevirtual 47, 3), (21, .ifCond .eq 7, 3), (24, .iconst 1, 1), (25, .goto 4, 3), (28, .iconst 0, 1), (29, .iadd, 1), (30, .istore_n 1, 1), (31, .iinc 2 1, 3)], [(34, .goto (-30), 3), (37, .iload_n 1, 1), (38, .ireturn, 1)]]
def kp_50 : List (Nat × Nat × Nat × Int) := [(14, 1, 5, 0), (36, 1, 9, 1), (47, 2, 45, 1)]
def kr_50 : xR := (kc_50, kp_50, (3, 1, 0, 0, 5), yX5_brokenChairs, cX5_brokenChairs, (some .int))
abbrev cX5_latestClock : ByteArray := prog_7_method_11_code
def yX5_latestClock : MethodName := ⟨RX5, "latestClock", "()I"⟩
def kc_51 : List (List (Nat × Instr × Nat)) := [[(0, .iconst 0, 1), (1, .istore_n 1, 1), (2, .iconst 0, 1), (3, .istore_n 2, 1), (4, .iload_n 2, 1), (5, .aload_n 0, 1), (6, .getfield 14, 3), (9, .getfield 36, 3), (12, .if_icmp .ge 19, 3), (15, .iload_n 1, 1)], [(16, .aload_n 0, 1), (17, .iload_n 2, 1), (18, .invokevirtual 50, 3), (21, .invokestatic 54, 3), (24, .istore_n 1, 1), (25, .iinc 2 1, 3), (28, .goto (-24), 3), (31, .iload_n 1, 1)], [(32, .ireturn, 1)]]
def kp_51 : List (Nat × Nat × Nat × Int) := [(14, 1, 5, 0), (36, 1, 9, 1), (50, 2, 46, 1), (54, 6, 297, 2)]
def kr_51 : xR := (kc_51, kp_51, (3, 1, 0, 0, 5), yX5_latestClock, cX5_latestClock, (some .int))
abbrev cX5_allAches : ByteArray := prog_7_method_12_code
def yX5_allAches : MethodName := ⟨RX5, "allAches", "()I"⟩
def kc_52 : List (List (Nat × Instr × Nat)) := [[(0, .iconst 0, 1), (1, .istore_n 1, 1), (2, .iconst 0, 1), (3, .istore_n 2, 1), (4, .iload_n 2, 1), (5, .aload_n 0, 1), (6, .getfield 14, 3), (9, .getfield 36, 3), (12, .if_icmp .ge 17, 3), (15, .iload_n 1, 1)], [(16, .aload_n 0, 1), (17, .iload_n 2, 1), (18, .invokevirtual 60, 3), (21, .iadd, 1), (22, .istore_n 1, 1), (23, .iinc 2 1, 3), (26, .goto (-22), 3), (29, .iload_n 1, 1), (30, .ireturn, 1)]]
def kp_52 : List (Nat × Nat × Nat × Int) := [(14, 1, 5, 0), (36, 1, 9, 1), (60, 2, 47, 1)]
def kr_52 : xR := (kc_52, kp_52, (3, 1, 0, 0, 5), yX5_allAches, cX5_allAches, (some .int))
abbrev cX5_goingMinutes : ByteArray := prog_7_method_21_code
def yX5_goingMinutes : MethodName := ⟨RX5, "goingMinutes", "(III)I"⟩
def kc_61 : List (List (Nat × Instr × Nat)) := [[(0, .aload_n 0, 1), (1, .getfield 14, 3), (4, .iload_n 1, 1), (5, .invokevirtual 75, 3), (8, .ifCond .eq 19, 3), (11, .aload_n 0, 1), (12, .getfield 14, 3), (15, .aload_n 0, 1)], [(16, .iload_n 1, 1), (17, .invokevirtual 63, 3), (20, .iload_n 2, 1), (21, .invokevirtual 101, 3), (24, .ifCond .ne 5, 3), (27, .iconst (-1), 1), (28, .ireturn, 1), (29, .iload_n 3, 1), (30, .iconst (-1), 1), (31, .if_icmp .eq 15, 3)], [(34, .aload_n 0, 1), (35, .iload_n 1, 1), (36, .iload_n 2, 1), (37, .iload_n 3, 1), (38, .invokevirtual 104, 3), (41, .ifCond .ne 5, 3), (44, .iconst (-1), 1), (45, .ireturn, 1), (46, .aload_n 0, 1), (47, .iload_n 1, 1)], [(48, .iload_n 3, 1), (49, .aload_n 0, 1), (50, .getfield 14, 3), (53, .aload_n 0, 1), (54, .iload_n 1, 1), (55, .invokevirtual 63, 3), (58, .iload_n 2, 1), (59, .invokevirtual 101, 3), (62, .invokevirtual 107, 3)], [(65, .ireturn, 1)]]
def kp_61 : List (Nat × Nat × Nat × Int) := [(14, 1, 5, 0), (63, 2, 43, 1), (75, 2, 107, 1), (101, 2, 117, 2), (104, 2, 60, 3), (107, 2, 62, 3)]
def kr_61 : xR := (kc_61, kp_61, (4, 1, 0, 0, 5), yX5_goingMinutes, cX5_goingMinutes, (some .int))
abbrev cX5_keptPart : ByteArray := prog_7_method_27_code
def yX5_keptPart : MethodName := ⟨RX5, "keptPart", "(II)I"⟩
def kc_67 : List (List (Nat × Instr × Nat)) := [[(0, .iload_n 1, 1), (1, .ifCond .lt 11, 3), (4, .iload_n 1, 1), (5, .aload_n 0, 1), (6, .invokevirtual 140, 3), (9, .if_icmp .lt 5, 3), (12, .iconst (-1), 1), (13, .ireturn, 1), (14, .aload_n 0, 1), (15, .getfield 21, 3)], [(18, .bipush 41, 2), (20, .iload_n 1, 1), (21, .iadd, 1), (22, .iaload, 1), (23, .istore_n 3, 1), (24, .iload_n 2, 1), (25, .tableswitch 56 0 3 #[31, 36, 43, 51], 31)], [], [(56, .iload_n 3, 1), (57, .bipush 7, 2), (59, .iand, 1), (60, .ireturn, 1), (61, .iload_n 3, 1), (62, .iconst 3, 1), (63, .ishr, 1)], [(64, .bipush 7, 2), (66, .iand, 1), (67, .ireturn, 1), (68, .iload_n 3, 1), (69, .bipush 6, 2), (71, .ishr, 1), (72, .bipush 7, 2), (74, .iand, 1), (75, .ireturn, 1), (76, .iload_n 3, 1), (77, .bipush 9, 2), (79, .ishr, 1)], [(80, .ireturn, 1), (81, .iconst (-1), 1), (82, .ireturn, 1)]]
def kp_67 : List (Nat × Nat × Nat × Int) := [(21, 1, 5, 2), (140, 2, 48, 0)]
def kr_67 : xR := (kc_67, kp_67, (4, 1, 0, 0, 5), yX5_keptPart, cX5_keptPart, (some .int))
abbrev cX5_canMend : ByteArray := prog_7_method_30_code
def yX5_canMend : MethodName := ⟨RX5, "canMend", "(II)Z"⟩
def kc_70 : List (List (Nat × Instr × Nat)) := [[(0, .aload_n 0, 1), (1, .getfield 14, 3), (4, .iload_n 1, 1), (5, .invokevirtual 75, 3), (8, .ifCond .eq 73, 3), (11, .aload_n 0, 1), (12, .getfield 14, 3), (15, .iload_n 2, 1)], [(16, .invokevirtual 75, 3), (19, .ifCond .eq 62, 3), (22, .aload_n 0, 1), (23, .getfield 14, 3), (26, .aload_n 0, 1), (27, .getfield 14, 3), (30, .getfield 153, 3)], [(33, .invokevirtual 72, 3), (36, .ifCond .eq 45, 3), (39, .aload_n 0, 1), (40, .iload_n 1, 1), (41, .invokevirtual 63, 3), (44, .aload_n 0, 1), (45, .getfield 14, 3)], [(48, .getfield 153, 3), (51, .if_icmp .ne 30, 3), (54, .aload_n 0, 1), (55, .iload_n 2, 1), (56, .invokevirtual 66, 3), (59, .aload_n 0, 1), (60, .getfield 14, 3), (63, .getfield 153, 3)], [(66, .if_icmp .ne 15, 3), (69, .aload_n 0, 1), (70, .iload_n 2, 1), (71, .invokevirtual 47, 3), (74, .ifCond .eq 7, 3), (77, .iconst 1, 1), (78, .goto 4, 3)], [(81, .iconst 0, 1), (82, .ireturn, 1)]]
def kp_70 : List (Nat × Nat × Nat × Int) := [(14, 1, 5, 0), (47, 2, 45, 1), (63, 2, 43, 1), (66, 2, 44, 1), (72, 2, 106, 1), (75, 2, 107, 1), (153, 1, 9, 3)]
def kr_70 : xR := (kc_70, kp_70, (3, 2, 0, 0, 5), yX5_canMend, cX5_canMend, (some .boolean))
abbrev cX5_draw : ByteArray := prog_7_method_32_code
def yX5_draw : MethodName := ⟨RX5, "draw", "([I)I"⟩
def kc_72 : List (List (Nat × Instr × Nat)) := [[(0, .iconst 0, 1), (1, .istore_n 2, 1), (2, .bipush 113, 2), (4, .istore_n 3, 1), (5, .iconst 0, 1), (6, .istore 4, 2), (8, .iload 4, 2), (10, .aload_n 0, 1), (11, .getfield 14, 3), (14, .getfield 36, 3)], [(17, .if_icmp .ge 51, 3), (20, .iconst 0, 1), (21, .istore 5, 2), (23, .iload 5, 2), (25, .bipush 9, 2), (27, .if_icmp .ge 35, 3), (30, .aload_n 1, 1), (31, .iload_n 2, 1)], [(32, .aload_n 0, 1), (33, .iload 4, 2), (35, .iload 5, 2), (37, .invokevirtual 156, 3), (40, .iastore, 1), (41, .iconst 5, 1), (42, .iload_n 3, 1), (43, .imul, 1), (44, .aload_n 1, 1), (45, .iload_n 2, 1), (46, .iaload, 1), (47, .iadd, 1)], [(48, .sipush 251, 3), (51, .irem, 1), (52, .istore_n 3, 1), (53, .iinc 2 1, 3), (56, .iinc 5 1, 3), (59, .goto (-36), 3), (62, .iinc 4 1, 3)], [(65, .goto (-57), 3), (68, .aload_n 1, 1), (69, .iload_n 2, 1), (70, .iload_n 3, 1), (71, .iastore, 1), (72, .iload_n 2, 1), (73, .iconst 1, 1), (74, .iadd, 1), (75, .ireturn, 1)]]
def kp_72 : List (Nat × Nat × Nat × Int) := [(14, 1, 5, 0), (36, 1, 9, 1), (156, 2, 73, 2)]
def kr_72 : xR := (kc_72, kp_72, (6, 1, 0, 0, 5), yX5_draw, cX5_draw, (some .int))
abbrev cX5_isImage : ByteArray := prog_7_method_34_code
def yX5_isImage : MethodName := ⟨RX5, "isImage", "(LOwnChair$Tape;)Z"⟩
def kc_74 : List (List (Nat × Instr × Nat)) := [[(0, .aload_n 0, 1), (1, .getfield 14, 3), (4, .getfield 36, 3), (7, .bipush 9, 2), (9, .imul, 1), (10, .istore_n 2, 1), (11, .aload_n 1, 1), (12, .getfield 159, 3), (15, .iload_n 2, 1)], [(16, .iconst 1, 1), (17, .iadd, 1), (18, .if_icmp .eq 5, 3), (21, .iconst 0, 1), (22, .ireturn, 1), (23, .bipush 113, 2), (25, .istore_n 3, 1), (26, .iconst 0, 1), (27, .istore 4, 2), (29, .iload 4, 2), (31, .iload_n 2, 1)], [(32, .if_icmp .ge 25, 3), (35, .iconst 5, 1), (36, .iload_n 3, 1), (37, .imul, 1), (38, .aload_n 1, 1), (39, .getfield 164, 3), (42, .iload 4, 2), (44, .iaload, 1), (45, .iadd, 1), (46, .sipush 251, 3)], [(49, .irem, 1), (50, .istore_n 3, 1), (51, .iinc 4 1, 3), (54, .goto (-25), 3), (57, .iload_n 3, 1), (58, .aload_n 1, 1), (59, .getfield 164, 3), (62, .iload_n 2, 1), (63, .iaload, 1)], [(64, .if_icmp .eq 5, 3), (67, .iconst 0, 1), (68, .ireturn, 1), (69, .iconst 0, 1), (70, .istore 4, 2), (72, .iload 4, 2), (74, .aload_n 0, 1), (75, .getfield 14, 3), (78, .getfield 36, 3)], [(81, .if_icmp .ge 94, 3), (84, .iload 4, 2), (86, .bipush 9, 2), (88, .imul, 1), (89, .istore 5, 2), (91, .aload_n 0, 1), (92, .getfield 14, 3), (95, .aload_n 1, 1)], [(96, .getfield 164, 3), (99, .iload 5, 2), (101, .iaload, 1), (102, .invokevirtual 72, 3), (105, .ifCond .eq 62, 3), (108, .aload_n 0, 1), (109, .getfield 14, 3)], [(112, .aload_n 1, 1), (113, .getfield 164, 3), (116, .iload 5, 2), (118, .iconst 1, 1), (119, .iadd, 1), (120, .iaload, 1), (121, .invokevirtual 72, 3), (124, .ifCond .eq 43, 3), (127, .aload_n 1, 1)], [(128, .getfield 164, 3), (131, .iload 5, 2), (133, .iconst 2, 1), (134, .iadd, 1), (135, .iaload, 1), (136, .iconst 1, 1), (137, .if_icmp .gt 30, 3), (140, .aload_n 1, 1), (141, .iload 5, 2), (143, .iconst 3, 1)], [(144, .iadd, 1), (145, .invokestatic 167, 3), (148, .ldc 132, 2), (150, .if_icmp .gt 17, 3), (153, .aload_n 1, 1), (154, .iload 5, 2), (156, .bipush 6, 2), (158, .iadd, 1), (159, .invokestatic 167, 3)], [(162, .ldc 132, 2), (164, .if_icmp .le 5, 3), (167, .iconst 0, 1), (168, .ireturn, 1), (169, .iinc 4 1, 3), (172, .goto (-100), 3), (175, .aload_n 0, 1)], [(176, .aload_n 1, 1), (177, .invokevirtual 171, 3), (180, .ireturn, 1)]]
def kp_74 : List (Nat × Nat × Nat × Int) := [(14, 1, 5, 0), (36, 1, 9, 1), (72, 2, 106, 1), (132, 7, 0, 99999), (159, 1, 8, 1), (164, 1, 8, 0), (167, 6, 76, 2), (171, 2, 75, 1)]
def kr_74 : xR := (kc_74, kp_74, (6, 2, 0, 0, 5), yX5_isImage, cX5_isImage, (some .boolean))
abbrev cX6_init : ByteArray := prog_8_method_1_code
def yX6_init : MethodName := ⟨RX6, "<init>", "()V"⟩
def kc_78 : List (List (Nat × Instr × Nat)) := [[(0, .aload_n 0, 1), (1, .invokespecial 3, 3), (4, .aload_n 0, 1), (5, .bipush 8, 2), (7, .newarray .int, 2), (9, .putfield 9, 3), (12, .aload_n 0, 1), (13, .bipush 8, 2), (15, .newarray .int, 2)], [(17, .putfield 15, 3), (20, .aload_n 0, 1), (21, .sipush 2048, 3), (24, .newarray .int, 2), (26, .putfield 18, 3), (29, .aload_n 0, 1), (30, .sipush 256, 3)], [(33, .newarray .int, 2), (35, .putfield 21, 3), (38, .aload_n 0, 1), (39, .sipush 256, 3), (42, .newarray .int, 2), (44, .putfield 24, 3), (47, .aload_n 0, 1)], [(48, .bipush 64, 2), (50, .newarray .int, 2), (52, .putfield 27, 3), (55, .aload_n 0, 1), (56, .iconst 0, 1), (57, .putfield 30, 3), (60, .aload_n 0, 1), (61, .iconst 1, 1), (62, .putfield 34, 3)], [(65, .return_, 1)]]
def kp_78 : List (Nat × Nat × Nat × Int) := [(3, 5, 0, 0), (9, 1, 6, 0), (15, 1, 6, 1), (18, 1, 6, 2), (21, 1, 6, 3), (24, 1, 6, 4), (27, 1, 6, 5), (30, 1, 6, 6), (34, 1, 6, 7)]
def kr_78 : xR := (kc_78, kp_78, (1, 0, 6, 2640, 6), yX6_init, cX6_init, none)
abbrev cX6_isTold : ByteArray := prog_8_method_4_code
def yX6_isTold : MethodName := ⟨RX6, "isTold", "(LOwnChair$Town;LOwnChair$Tape;)Z"⟩
def kc_81 : List (List (Nat × Instr × Nat)) := [[(0, .aload_n 2, 1), (1, .getfield 85, 3), (4, .iconst 2, 1), (5, .if_icmp .lt 21, 3), (8, .aload_n 2, 1), (9, .getfield 85, 3), (12, .bipush 16, 2), (14, .if_icmp .gt 12, 3)], [(17, .aload_n 2, 1), (18, .getfield 85, 3), (21, .iconst 2, 1), (22, .irem, 1), (23, .ifCond .eq 5, 3), (26, .iconst 0, 1), (27, .ireturn, 1), (28, .iconst 0, 1), (29, .istore_n 3, 1), (30, .iconst 0, 1), (31, .istore 4, 2)], [(33, .iload 4, 2), (35, .iconst 1, 1), (36, .iadd, 1), (37, .aload_n 2, 1), (38, .getfield 85, 3), (41, .if_icmp .ge 46, 3), (44, .aload_n 2, 1), (45, .getfield 90, 3)], [(48, .iload 4, 2), (50, .iaload, 1), (51, .istore 5, 2), (53, .aload_n 1, 1), (54, .iload 5, 2), (56, .invokevirtual 93, 3), (59, .ifCond .eq 13, 3), (62, .iload_n 3, 1), (63, .iload 5, 2)], [(65, .ishr, 1), (66, .iconst 1, 1), (67, .iand, 1), (68, .iconst 1, 1), (69, .if_icmp .ne 5, 3), (72, .iconst 0, 1), (73, .ireturn, 1), (74, .iload_n 3, 1), (75, .iconst 1, 1), (76, .iload 5, 2), (78, .ishl, 1), (79, .ior, 1)], [(80, .istore_n 3, 1), (81, .iinc 4 2, 3), (84, .goto (-51), 3), (87, .aload_n 0, 1), (88, .aload_n 2, 1), (89, .invokevirtual 96, 3), (92, .iconst 1, 1), (93, .ireturn, 1)]]
def kp_81 : List (Nat × Nat × Nat × Int) := [(85, 1, 8, 1), (90, 1, 8, 0), (93, 2, 106, 1), (96, 2, 82, 1)]
def kr_81 : xR := (kc_81, kp_81, (6, 2, 0, 0, 6), yX6_isTold, cX6_isTold, (some .boolean))
abbrev cX7_init : ByteArray := prog_9_method_1_code
def yX7_init : MethodName := ⟨RX7, "<init>", "()V"⟩
def kc_88 : List (List (Nat × Instr × Nat)) := [[(0, .aload_n 0, 1), (1, .invokespecial 3, 3), (4, .aload_n 0, 1), (5, .new 9, 3), (8, .dup, 1), (9, .invokespecial 11, 3), (12, .putfield 12, 3), (15, .return_, 1)]]
def kp_88 : List (Nat × Nat × Nat × Int) := [(3, 5, 0, 0), (9, 9, 3, 0), (11, 4, 18, 0), (12, 1, 7, 0)]
def kr_88 : xR := (kc_88, kp_88, (1, 0, 2, 8, 7), yX7_init, cX7_init, none)
abbrev cX8_init : ByteArray := prog_10_method_1_code
def yX8_init : MethodName := ⟨RX8, "<init>", "()V"⟩
def kc_102 : List (List (Nat × Instr × Nat)) := [[(0, .aload_n 0, 1), (1, .invokespecial 3, 3), (4, .aload_n 0, 1), (5, .sipush 1600, 3), (8, .newarray .int, 2), (10, .putfield 9, 3), (13, .aload_n 0, 1), (14, .iconst 0, 1), (15, .putfield 15, 3)], [(18, .return_, 1)]]
def kp_102 : List (Nat × Nat × Nat × Int) := [(3, 5, 0, 0), (9, 1, 8, 0), (15, 1, 8, 1)]
def kr_102 : xR := (kc_102, kp_102, (1, 0, 1, 1600, 8), yX8_init, cX8_init, none)
abbrev cX8_append : ByteArray := prog_10_method_2_code
def yX8_append : MethodName := ⟨RX8, "append", "(I)V"⟩
def kc_103 : List (List (Nat × Instr × Nat)) := [[(0, .bipush 24, 2), (2, .istore_n 2, 1), (3, .iload_n 2, 1), (4, .ifCond .lt 47, 3), (7, .aload_n 0, 1), (8, .getfield 15, 3), (11, .aload_n 0, 1), (12, .getfield 9, 3), (15, .arraylength, 1)], [(16, .if_icmp .ge 35, 3), (19, .aload_n 0, 1), (20, .getfield 9, 3), (23, .aload_n 0, 1), (24, .getfield 15, 3), (27, .iload_n 1, 1), (28, .iload_n 2, 1), (29, .iushr, 1), (30, .sipush 255, 3)], [(33, .iand, 1), (34, .iastore, 1), (35, .aload_n 0, 1), (36, .dup, 1), (37, .getfield 15, 3), (40, .iconst 1, 1), (41, .iadd, 1), (42, .putfield 15, 3), (45, .iinc 2 (-8), 3)], [(48, .goto (-45), 3), (51, .return_, 1)]]
def kp_103 : List (Nat × Nat × Nat × Int) := [(9, 1, 8, 0), (15, 1, 8, 1)]
def kr_103 : xR := (kc_103, kp_103, (3, 0, 0, 0, 8), yX8_append, cX8_append, none)
abbrev cX9_init : ByteArray := prog_11_method_1_code
def yX9_init : MethodName := ⟨RX9, "<init>", "()V"⟩
def kc_104 : List (List (Nat × Instr × Nat)) := [[(0, .aload_n 0, 1), (1, .invokespecial 3, 3), (4, .aload_n 0, 1), (5, .iconst 0, 1), (6, .putfield 9, 3), (9, .aload_n 0, 1), (10, .iconst 0, 1), (11, .putfield 15, 3), (14, .aload_n 0, 1), (15, .iconst 0, 1)], [(16, .putfield 18, 3), (19, .aload_n 0, 1), (20, .iconst (-1), 1), (21, .putfield 21, 3), (24, .aload_n 0, 1), (25, .bipush 8, 2), (27, .newarray .int, 2), (29, .putfield 24, 3)], [(32, .aload_n 0, 1), (33, .bipush 8, 2), (35, .newarray .int, 2), (37, .putfield 28, 3), (40, .aload_n 0, 1), (41, .bipush 8, 2), (43, .newarray .int, 2), (45, .putfield 31, 3)], [(48, .aload_n 0, 1), (49, .bipush 64, 2), (51, .newarray .int, 2), (53, .putfield 34, 3), (56, .aload_n 0, 1), (57, .bipush 8, 2), (59, .newarray .int, 2), (61, .putfield 37, 3)], [(64, .aload_n 0, 1), (65, .bipush 8, 2), (67, .newarray .int, 2), (69, .putfield 40, 3), (72, .aload_n 0, 1), (73, .bipush 8, 2), (75, .newarray .int, 2), (77, .putfield 43, 3)], [(80, .aload_n 0, 1), (81, .bipush 8, 2), (83, .newarray .int, 2), (85, .putfield 46, 3), (88, .aload_n 0, 1), (89, .bipush 8, 2), (91, .newarray .int, 2), (93, .putfield 49, 3)], [(96, .aload_n 0, 1), (97, .bipush 8, 2), (99, .newarray .int, 2), (101, .putfield 52, 3), (104, .aload_n 0, 1), (105, .new 55, 3), (108, .dup, 1), (109, .invokespecial 57, 3)], [(112, .putfield 58, 3), (115, .aload_n 0, 1), (116, .new 55, 3), (119, .dup, 1), (120, .invokespecial 57, 3), (123, .putfield 62, 3), (126, .return_, 1)]]
def kp_104 : List (Nat × Nat × Nat × Int) := [(3, 5, 0, 0), (9, 1, 9, 0), (15, 1, 9, 1), (18, 1, 9, 2), (21, 1, 9, 3), (24, 1, 9, 4), (28, 1, 9, 5), (31, 1, 9, 6), (34, 1, 9, 7), (37, 1, 9, 8), (40, 1, 9, 9), (43, 1, 9, 10), (46, 1, 9, 11), (49, 1, 9, 12), (52, 1, 9, 13), (55, 9, 1, 0), (57, 4, 9, 0), (58, 1, 9, 14), (62, 1, 9, 15)]
def kr_104 : xR := (kc_104, kp_104, (1, 0, 16, 334, 9), yX9_init, cX9_init, none)
abbrev cX9_clear : ByteArray := prog_11_method_2_code
def yX9_clear : MethodName := ⟨RX9, "clear", "()V"⟩
def kc_105 : List (List (Nat × Instr × Nat)) := [[(0, .aload_n 0, 1), (1, .iconst 0, 1), (2, .putfield 9, 3), (5, .aload_n 0, 1), (6, .iconst 0, 1), (7, .putfield 15, 3), (10, .aload_n 0, 1), (11, .iconst 0, 1), (12, .putfield 18, 3), (15, .aload_n 0, 1)], [(16, .iconst (-1), 1), (17, .putfield 21, 3), (20, .aload_n 0, 1), (21, .getfield 34, 3), (24, .iconst 0, 1), (25, .invokestatic 65, 3), (28, .aload_n 0, 1), (29, .getfield 58, 3)], [(32, .iconst 0, 1), (33, .putfield 71, 3), (36, .aload_n 0, 1), (37, .getfield 62, 3), (40, .iconst 0, 1), (41, .putfield 71, 3), (44, .return_, 1)]]
def kp_105 : List (Nat × Nat × Nat × Int) := [(9, 1, 9, 0), (15, 1, 9, 1), (18, 1, 9, 2), (21, 1, 9, 3), (34, 1, 9, 7), (58, 1, 9, 14), (62, 1, 9, 15), (65, 6, 301, 2), (71, 1, 1, 2)]
def kr_105 : xR := (kc_105, kp_105, (1, 0, 0, 0, 9), yX9_clear, cX9_clear, none)
abbrev cX9_isRoom : ByteArray := prog_11_method_3_code
def yX9_isRoom : MethodName := ⟨RX9, "isRoom", "(I)Z"⟩
def kc_106 : List (List (Nat × Instr × Nat)) := [[(0, .iload_n 1, 1), (1, .ifCond .lt 15, 3), (4, .iload_n 1, 1), (5, .aload_n 0, 1), (6, .getfield 9, 3), (9, .if_icmp .ge 7, 3), (12, .iconst 1, 1), (13, .goto 4, 3)], [(16, .iconst 0, 1), (17, .ireturn, 1)]]
def kp_106 : List (Nat × Nat × Nat × Int) := [(9, 1, 9, 0)]
def kr_106 : xR := (kc_106, kp_106, (2, 2, 0, 0, 9), yX9_isRoom, cX9_isRoom, (some .boolean))
abbrev cX9_isPerson : ByteArray := prog_11_method_4_code
def yX9_isPerson : MethodName := ⟨RX9, "isPerson", "(I)Z"⟩
def kc_107 : List (List (Nat × Instr × Nat)) := [[(0, .iload_n 1, 1), (1, .ifCond .lt 15, 3), (4, .iload_n 1, 1), (5, .aload_n 0, 1), (6, .getfield 15, 3), (9, .if_icmp .ge 7, 3), (12, .iconst 1, 1), (13, .goto 4, 3)], [(16, .iconst 0, 1), (17, .ireturn, 1)]]
def kp_107 : List (Nat × Nat × Nat × Int) := [(15, 1, 9, 1)]
def kr_107 : xR := (kc_107, kp_107, (2, 2, 0, 0, 9), yX9_isPerson, cX9_isPerson, (some .boolean))
abbrev cX9_wayMinutes : ByteArray := prog_11_method_14_code
def yX9_wayMinutes : MethodName := ⟨RX9, "wayMinutes", "(II)I"⟩
def kc_117 : List (List (Nat × Instr × Nat)) := [[(0, .aload_n 0, 1), (1, .iload_n 1, 1), (2, .invokevirtual 78, 3), (5, .ifCond .eq 25, 3), (8, .aload_n 0, 1), (9, .iload_n 2, 1), (10, .invokevirtual 78, 3), (13, .ifCond .eq 17, 3)], [(16, .aload_n 0, 1), (17, .getfield 34, 3), (20, .iload_n 1, 1), (21, .bipush 8, 2), (23, .imul, 1), (24, .iload_n 2, 1), (25, .iadd, 1), (26, .iaload, 1), (27, .goto 4, 3), (30, .iconst 0, 1), (31, .ireturn, 1)]]
def kp_117 : List (Nat × Nat × Nat × Int) := [(34, 1, 9, 7), (78, 2, 106, 1)]
def kr_117 : xR := (kc_117, kp_117, (3, 1, 0, 0, 9), yX9_wayMinutes, cX9_wayMinutes, (some .int))
abbrev cX10_init : ByteArray := prog_12_method_1_code
def yX10_init : MethodName := ⟨RX10, "<init>", "()V"⟩
def kc_120 : List (List (Nat × Instr × Nat)) := [[(0, .aload_n 0, 1), (1, .invokespecial 3, 3), (4, .aload_n 0, 1), (5, .new 9, 3), (8, .dup, 1), (9, .invokespecial 11, 3), (12, .putfield 12, 3), (15, .aload_n 0, 1)], [(16, .aload_n 0, 1), (17, .getfield 12, 3), (20, .getfield 18, 3), (23, .putfield 22, 3), (26, .aload_n 0, 1), (27, .iconst 0, 1), (28, .putfield 23, 3), (31, .return_, 1)]]
def kp_120 : List (Nat × Nat × Nat × Int) := [(3, 5, 0, 0), (9, 9, 7, 0), (11, 4, 88, 0), (12, 1, 10, 0), (18, 1, 7, 0), (22, 1, 10, 1), (23, 1, 10, 2)]
def kr_120 : xR := (kc_120, kp_120, (1, 0, 3, 9, 10), yX10_init, cX10_init, none)
abbrev cX10_read : ByteArray := prog_12_method_2_code
def yX10_read : MethodName := ⟨RX10, "read", "(LOwnChair$Tape;LOwnChair$Town;)I"⟩
def kc_121 : List (List (Nat × Instr × Nat)) := [[(0, .aload_n 2, 1), (1, .invokevirtual 27, 3), (4, .aload_n 0, 1), (5, .getfield 22, 3), (8, .aload_n 1, 1), (9, .invokevirtual 32, 3), (12, .iconst 0, 1), (13, .istore_n 3, 1), (14, .iload_n 3, 1), (15, .bipush 80, 2)], [(17, .if_icmp .gt 85, 3), (20, .aload_n 0, 1), (21, .getfield 22, 3), (24, .invokevirtual 38, 3), (27, .ifCond .eq 5, 3), (30, .iload_n 3, 1), (31, .ireturn, 1)], [(32, .iload_n 3, 1), (33, .bipush 80, 2), (35, .if_icmp .ne 22, 3), (38, .aload_n 0, 1), (39, .getfield 22, 3), (42, .bipush 6, 2), (44, .aload_n 0, 1), (45, .getfield 22, 3)], [(48, .getfield 42, 3), (51, .invokevirtual 45, 3), (54, .pop, 1), (55, .iconst (-1), 1), (56, .ireturn, 1), (57, .aload_n 0, 1), (58, .getfield 22, 3), (61, .invokevirtual 49, 3)], [(64, .aload_n 0, 1), (65, .aload_n 2, 1), (66, .invokevirtual 52, 3), (69, .ifCond .ne 5, 3), (72, .iconst (-1), 1), (73, .ireturn, 1), (74, .aload_n 0, 1), (75, .getfield 22, 3), (78, .bipush 59, 2)], [(80, .invokevirtual 56, 3), (83, .ifCond .ne 13, 3), (86, .aload_n 0, 1), (87, .getfield 22, 3), (90, .invokevirtual 60, 3), (93, .pop, 1), (94, .iconst (-1), 1), (95, .ireturn, 1)], [(96, .iinc 3 1, 3), (99, .goto (-85), 3), (102, .iconst (-1), 1), (103, .ireturn, 1)]]
def kp_121 : List (Nat × Nat × Nat × Int) := [(22, 1, 10, 1), (27, 2, 105, 0), (32, 2, 19, 1), (38, 2, 25, 0), (42, 1, 3, 2), (45, 2, 20, 2), (49, 2, 26, 0), (52, 2, 122, 1), (56, 2, 23, 1), (60, 2, 21, 0)]
def kr_121 : xR := (kc_121, kp_121, (4, 1, 0, 0, 10), yX10_read, cX10_read, (some .int))
abbrev cX11_init : ByteArray := prog_1_method_1_code
def yX11_init : MethodName := ⟨RX11, "<init>", "()V"⟩
def kc_135 : List (List (Nat × Instr × Nat)) := [[(0, .aload_n 0, 1), (1, .invokespecial 1, 3), (4, .aload_n 0, 1), (5, .new 7, 3), (8, .dup, 1), (9, .invokespecial 9, 3), (12, .putfield 10, 3), (15, .aload_n 0, 1)], [(16, .new 16, 3), (19, .dup, 1), (20, .invokespecial 18, 3), (23, .putfield 19, 3), (26, .aload_n 0, 1), (27, .new 23, 3), (30, .dup, 1), (31, .invokespecial 25, 3)], [(34, .putfield 26, 3), (37, .aload_n 0, 1), (38, .new 30, 3), (41, .dup, 1), (42, .invokespecial 32, 3), (45, .putfield 33, 3)], [(48, .aload_n 0, 1), (49, .new 37, 3), (52, .dup, 1), (53, .invokespecial 39, 3), (56, .putfield 40, 3), (59, .aload_n 0, 1), (60, .new 44, 3), (63, .dup, 1)], [(64, .invokespecial 46, 3), (67, .putfield 47, 3), (70, .aload_n 0, 1), (71, .new 51, 3), (74, .dup, 1), (75, .invokespecial 53, 3), (78, .putfield 54, 3)], [(81, .aload_n 0, 1), (82, .bipush 6, 2), (84, .newarray .int, 2), (86, .putfield 58, 3), (89, .aload_n 0, 1), (90, .bipush 73, 2), (92, .newarray .int, 2), (94, .putfield 62, 3)], [(97, .aload_n 0, 1), (98, .iconst 0, 1), (99, .putfield 65, 3), (102, .aload_n 0, 1), (103, .iconst 0, 1), (104, .putfield 69, 3), (107, .aload_n 0, 1), (108, .iconst (-1), 1), (109, .putfield 72, 3)], [(112, .aload_n 0, 1), (113, .iconst 1, 1), (114, .putfield 75, 3), (117, .return_, 1)]]
def kp_135 : List (Nat × Nat × Nat × Int) := [(1, 5, 0, 0), (7, 9, 8, 0), (9, 4, 102, 0), (10, 1, 11, 0), (16, 9, 10, 0), (18, 4, 120, 0), (19, 1, 11, 1), (23, 9, 5, 0), (25, 4, 41, 0), (26, 1, 11, 2), (30, 9, 2, 0), (32, 4, 15, 0), (33, 1, 11, 3), (37, 9, 4, 0), (39, 4, 32, 0), (40, 1, 11, 4), (44, 9, 0, 0), (46, 4, 1, 0), (47, 1, 11, 5), (51, 9, 6, 0), (53, 4, 78, 0), (54, 1, 11, 6), (58, 1, 11, 7), (62, 1, 11, 8), (65, 1, 11, 9), (69, 1, 11, 10), (72, 1, 11, 11), (75, 1, 11, 12)]
def kr_135 : xR := (kc_135, kp_135, (1, 0, 62, 7025, 11), yX11_init, cX11_init, none)
abbrev cX11_feed : ByteArray := prog_1_method_2_code
def yX11_feed : MethodName := ⟨RX11, "feed", "(IIIII)I"⟩
def kc_136 : List (List (Nat × Instr × Nat)) := [[(0, .aload_n 0, 1), (1, .getfield 10, 3), (4, .getfield 78, 3), (7, .bipush 20, 2), (9, .iadd, 1), (10, .sipush 1600, 3), (13, .if_icmp .le 9, 3)], [(16, .aload_n 0, 1), (17, .iconst 0, 1), (18, .invokevirtual 81, 3), (21, .ireturn, 1), (22, .aload_n 0, 1), (23, .getfield 10, 3), (26, .iload_n 1, 1), (27, .invokevirtual 85, 3), (30, .aload_n 0, 1), (31, .getfield 10, 3)], [(34, .iload_n 2, 1), (35, .invokevirtual 85, 3), (38, .aload_n 0, 1), (39, .getfield 10, 3), (42, .iload_n 3, 1), (43, .invokevirtual 85, 3), (46, .aload_n 0, 1), (47, .getfield 10, 3)], [(50, .iload 4, 2), (52, .invokevirtual 85, 3), (55, .aload_n 0, 1), (56, .getfield 10, 3), (59, .iload 5, 2), (61, .invokevirtual 85, 3)], [(64, .aload_n 0, 1), (65, .getfield 10, 3), (68, .getfield 78, 3), (71, .ireturn, 1)]]
def kp_136 : List (Nat × Nat × Nat × Int) := [(10, 1, 11, 0), (78, 1, 8, 1), (81, 2, 165, 1), (85, 2, 103, 1)]
def kr_136 : xR := (kc_136, kp_136, (6, 1, 0, 0, 11), yX11_feed, cX11_feed, (some .int))
abbrev cX11_end : ByteArray := prog_1_method_3_code
def yX11_end : MethodName := ⟨RX11, "end", "(I)Z"⟩
def kc_137 : List (List (Nat × Instr × Nat)) := [[(0, .iload_n 1, 1), (1, .ifCond .lt 14, 3), (4, .iload_n 1, 1), (5, .aload_n 0, 1), (6, .getfield 10, 3), (9, .getfield 78, 3), (12, .if_icmp .le 11, 3), (15, .aload_n 0, 1)], [(16, .iconst 0, 1), (17, .invokevirtual 81, 3), (20, .pop, 1), (21, .iconst 0, 1), (22, .ireturn, 1), (23, .aload_n 0, 1), (24, .getfield 10, 3), (27, .iload_n 1, 1), (28, .putfield 78, 3), (31, .iconst 1, 1)], [(32, .ireturn, 1)]]
def kp_137 : List (Nat × Nat × Nat × Int) := [(10, 1, 11, 0), (78, 1, 8, 1), (81, 2, 165, 1)]
def kr_137 : xR := (kc_137, kp_137, (2, 2, 0, 0, 11), yX11_end, cX11_end, (some .boolean))
abbrev cX11_town : ByteArray := prog_1_method_4_code
def yX11_town : MethodName := ⟨RX11, "town", "()I"⟩
def kc_138 : List (List (Nat × Instr × Nat)) := [[(0, .aload_n 0, 1), (1, .getfield 19, 3), (4, .aload_n 0, 1), (5, .getfield 10, 3), (8, .aload_n 0, 1), (9, .getfield 26, 3), (12, .getfield 89, 3), (15, .invokevirtual 93, 3)], [(18, .istore_n 1, 1), (19, .aload_n 0, 1), (20, .getfield 10, 3), (23, .iconst 0, 1), (24, .putfield 78, 3), (27, .aload_n 0, 1), (28, .aload_n 0, 1), (29, .getfield 19, 3)], [(32, .getfield 97, 3), (35, .getfield 101, 3), (38, .putfield 69, 3), (41, .aload_n 0, 1), (42, .aload_n 0, 1), (43, .getfield 69, 3), (46, .ifCond .ne 7, 3)], [(49, .iconst (-1), 1), (50, .goto 13, 3), (53, .aload_n 0, 1), (54, .getfield 19, 3), (57, .getfield 97, 3), (60, .getfield 106, 3), (63, .putfield 72, 3)], [(66, .iload_n 1, 1), (67, .iconst (-1), 1), (68, .if_icmp .ne 9, 3), (71, .aload_n 0, 1), (72, .iconst 1, 1), (73, .invokevirtual 81, 3), (76, .ireturn, 1), (77, .aload_n 0, 1), (78, .getfield 26, 3)], [(81, .invokevirtual 107, 3), (84, .aload_n 0, 1), (85, .getfield 33, 3), (88, .iconst 0, 1), (89, .putfield 110, 3), (92, .aload_n 0, 1), (93, .getfield 47, 3)], [(96, .iconst 0, 1), (97, .putfield 113, 3), (100, .aload_n 0, 1), (101, .getfield 54, 3), (104, .iconst 0, 1), (105, .putfield 116, 3), (108, .iload_n 1, 1), (109, .ireturn, 1)]]
def kp_138 : List (Nat × Nat × Nat × Int) := [(10, 1, 11, 0), (19, 1, 11, 1), (26, 1, 11, 2), (33, 1, 11, 3), (47, 1, 11, 5), (54, 1, 11, 6), (69, 1, 11, 10), (72, 1, 11, 11), (78, 1, 8, 1), (81, 2, 165, 1), (89, 1, 5, 1), (93, 2, 121, 2), (97, 1, 10, 1), (101, 1, 3, 6), (106, 1, 3, 7), (107, 2, 42, 0), (110, 1, 2, 2), (113, 1, 0, 2), (116, 1, 6, 6)]
def kr_138 : xR := (kc_138, kp_138, (2, 1, 0, 0, 11), yX11_town, cX11_town, (some .int))
abbrev cX11_fault : ByteArray := prog_1_method_5_code
def yX11_fault : MethodName := ⟨RX11, "fault", "(I)I"⟩
def kc_139 : List (List (Nat × Instr × Nat)) := [[(0, .iload_n 1, 1), (1, .ifCond .ne 8, 3), (4, .aload_n 0, 1), (5, .getfield 69, 3), (8, .ireturn, 1), (9, .iload_n 1, 1), (10, .iconst 1, 1), (11, .if_icmp .ne 10, 3), (14, .aload_n 0, 1), (15, .getfield 72, 3)], [(18, .goto 4, 3), (21, .iconst (-1), 1), (22, .ireturn, 1)]]
def kp_139 : List (Nat × Nat × Nat × Int) := [(69, 1, 11, 10), (72, 1, 11, 11)]
def kr_139 : xR := (kc_139, kp_139, (2, 1, 0, 0, 11), yX11_fault, cX11_fault, (some .int))
abbrev cX11_has : ByteArray := prog_1_method_6_code
def yX11_has : MethodName := ⟨RX11, "has", "(I)I"⟩
def kc_140 : List (List (Nat × Instr × Nat)) := [[(0, .iload_n 1, 1), (1, .tableswitch 156 0 10 #[59, 70, 81, 92, 103, 111, 119, 127, 135, 143, 151], 59)], [], [], [(60, .aload_n 0, 1), (61, .getfield 26, 3)], [(64, .getfield 120, 3), (67, .getfield 123, 3), (70, .ireturn, 1), (71, .aload_n 0, 1), (72, .getfield 26, 3), (75, .getfield 120, 3), (78, .getfield 128, 3)], [(81, .ireturn, 1), (82, .aload_n 0, 1), (83, .getfield 26, 3), (86, .getfield 120, 3), (89, .getfield 131, 3), (92, .ireturn, 1), (93, .aload_n 0, 1), (94, .getfield 26, 3)], [(97, .getfield 120, 3), (100, .getfield 134, 3), (103, .ireturn, 1), (104, .aload_n 0, 1), (105, .getfield 26, 3), (108, .invokevirtual 137, 3), (111, .ireturn, 1)], [(112, .aload_n 0, 1), (113, .getfield 26, 3), (116, .invokevirtual 141, 3), (119, .ireturn, 1), (120, .aload_n 0, 1), (121, .getfield 26, 3), (124, .invokevirtual 144, 3), (127, .ireturn, 1)], [(128, .aload_n 0, 1), (129, .getfield 26, 3), (132, .invokevirtual 147, 3), (135, .ireturn, 1), (136, .aload_n 0, 1), (137, .getfield 26, 3), (140, .invokevirtual 150, 3), (143, .ireturn, 1)], [(144, .aload_n 0, 1), (145, .getfield 33, 3), (148, .getfield 110, 3), (151, .ireturn, 1), (152, .aload_n 0, 1), (153, .getfield 75, 3), (156, .ireturn, 1), (157, .iconst (-1), 1), (158, .ireturn, 1)]]
def kp_140 : List (Nat × Nat × Nat × Int) := [(26, 1, 11, 2), (33, 1, 11, 3), (75, 1, 11, 12), (110, 1, 2, 2), (120, 1, 5, 0), (123, 1, 9, 0), (128, 1, 9, 1), (131, 1, 9, 2), (134, 1, 9, 3), (137, 2, 49, 0), (141, 2, 50, 0), (144, 2, 51, 0), (147, 2, 52, 0), (150, 2, 48, 0)]
def kr_140 : xR := (kc_140, kp_140, (2, 1, 0, 0, 11), yX11_has, cX11_has, (some .int))
abbrev cX11_letter : ByteArray := prog_1_method_7_code
def yX11_letter : MethodName := ⟨RX11, "letter", "(III)I"⟩
def kc_141 : List (List (Nat × Instr × Nat)) := [[(0, .iload_n 3, 1), (1, .ifCond .lt 8, 3), (4, .iload_n 3, 1), (5, .iconst 5, 1), (6, .if_icmp .le 5, 3), (9, .iconst (-1), 1), (10, .ireturn, 1), (11, .iload_n 1, 1), (12, .ifCond .ne 34, 3), (15, .aload_n 0, 1)], [(16, .getfield 26, 3), (19, .getfield 120, 3), (22, .iload_n 2, 1), (23, .invokevirtual 153, 3), (26, .ifCond .eq 20, 3), (29, .aload_n 0, 1), (30, .getfield 26, 3)], [(33, .getfield 120, 3), (36, .getfield 157, 3), (39, .iload_n 2, 1), (40, .iaload, 1), (41, .iload_n 3, 1), (42, .invokestatic 160, 3), (45, .ireturn, 1), (46, .iload_n 1, 1), (47, .iconst 1, 1)], [(48, .if_icmp .ne 34, 3), (51, .aload_n 0, 1), (52, .getfield 26, 3), (55, .getfield 120, 3), (58, .iload_n 2, 1), (59, .invokevirtual 164, 3), (62, .ifCond .eq 20, 3)], [(65, .aload_n 0, 1), (66, .getfield 26, 3), (69, .getfield 120, 3), (72, .getfield 167, 3), (75, .iload_n 2, 1), (76, .iaload, 1), (77, .iload_n 3, 1), (78, .invokestatic 160, 3)], [(81, .ireturn, 1), (82, .iconst (-1), 1), (83, .ireturn, 1)]]
def kp_141 : List (Nat × Nat × Nat × Int) := [(26, 1, 11, 2), (120, 1, 5, 0), (153, 2, 106, 1), (157, 1, 9, 4), (160, 6, 166, 2), (164, 2, 107, 1), (167, 1, 9, 8)]
def kr_141 : xR := (kc_141, kp_141, (4, 1, 0, 0, 11), yX11_letter, cX11_letter, (some .int))
abbrev cX11_room : ByteArray := prog_1_method_8_code
def yX11_room : MethodName := ⟨RX11, "room", "(II)I"⟩
def kc_142 : List (List (Nat × Instr × Nat)) := [[(0, .aload_n 0, 1), (1, .getfield 26, 3), (4, .getfield 120, 3), (7, .iload_n 1, 1), (8, .invokevirtual 153, 3), (11, .ifCond .ne 5, 3), (14, .iconst (-1), 1), (15, .ireturn, 1)], [(16, .iload_n 2, 1), (17, .tableswitch 102 0 5 #[39, 52, 65, 75, 84, 93], 39)], [], [(56, .aload_n 0, 1), (57, .getfield 26, 3), (60, .getfield 120, 3), (63, .getfield 170, 3)], [(66, .iload_n 1, 1), (67, .iaload, 1), (68, .ireturn, 1), (69, .aload_n 0, 1), (70, .getfield 26, 3), (73, .getfield 120, 3), (76, .getfield 173, 3), (79, .iload_n 1, 1)], [(80, .iaload, 1), (81, .ireturn, 1), (82, .aload_n 0, 1), (83, .getfield 26, 3), (86, .iload_n 1, 1), (87, .iconst (-1), 1), (88, .invokevirtual 176, 3), (91, .ireturn, 1), (92, .aload_n 0, 1), (93, .getfield 26, 3)], [(96, .iload_n 1, 1), (97, .invokevirtual 179, 3), (100, .ireturn, 1), (101, .aload_n 0, 1), (102, .getfield 26, 3), (105, .iload_n 1, 1), (106, .invokevirtual 182, 3), (109, .ireturn, 1), (110, .aload_n 0, 1), (111, .getfield 26, 3)], [(114, .iload_n 1, 1), (115, .invokevirtual 185, 3), (118, .ireturn, 1), (119, .iconst (-1), 1), (120, .ireturn, 1)]]
def kp_142 : List (Nat × Nat × Nat × Int) := [(26, 1, 11, 2), (120, 1, 5, 0), (153, 2, 106, 1), (170, 1, 9, 5), (173, 1, 9, 6), (176, 2, 56, 2), (179, 2, 53, 1), (182, 2, 54, 1), (185, 2, 55, 1)]
def kr_142 : xR := (kc_142, kp_142, (3, 1, 0, 0, 11), yX11_room, cX11_room, (some .int))
abbrev cX11_way : ByteArray := prog_1_method_9_code
def yX11_way : MethodName := ⟨RX11, "way", "(II)I"⟩
def kc_143 : List (List (Nat × Instr × Nat)) := [[(0, .aload_n 0, 1), (1, .getfield 26, 3), (4, .getfield 120, 3), (7, .iload_n 1, 1), (8, .iload_n 2, 1), (9, .invokevirtual 188, 3), (12, .istore_n 3, 1), (13, .iload_n 3, 1), (14, .ifCond .le 7, 3)], [(17, .iload_n 3, 1), (18, .goto 4, 3), (21, .iconst (-1), 1), (22, .ireturn, 1)]]
def kp_143 : List (Nat × Nat × Nat × Int) := [(26, 1, 11, 2), (120, 1, 5, 0), (188, 2, 117, 2)]
def kr_143 : xR := (kc_143, kp_143, (4, 1, 0, 0, 11), yX11_way, cX11_way, (some .int))
abbrev cX11_person : ByteArray := prog_1_method_10_code
def yX11_person : MethodName := ⟨RX11, "person", "(II)I"⟩
def kc_144 : List (List (Nat × Instr × Nat)) := [[(0, .aload_n 0, 1), (1, .getfield 26, 3), (4, .getfield 120, 3), (7, .iload_n 1, 1), (8, .invokevirtual 164, 3), (11, .ifCond .ne 5, 3), (14, .iconst (-1), 1), (15, .ireturn, 1)], [(16, .iload_n 2, 1), (17, .tableswitch 193 0 10 #[59, 68, 77, 94, 111, 120, 129, 142, 155, 168, 181], 59)], [], [], [(76, .aload_n 0, 1), (77, .getfield 26, 3)], [(80, .iload_n 1, 1), (81, .invokevirtual 191, 3), (84, .ireturn, 1), (85, .aload_n 0, 1), (86, .getfield 26, 3), (89, .iload_n 1, 1), (90, .invokevirtual 194, 3), (93, .ireturn, 1), (94, .aload_n 0, 1), (95, .getfield 26, 3)], [(98, .iload_n 1, 1), (99, .invokevirtual 197, 3), (102, .ifCond .eq 7, 3), (105, .iconst 1, 1), (106, .goto 4, 3), (109, .iconst 0, 1), (110, .ireturn, 1), (111, .aload_n 0, 1)], [(112, .getfield 26, 3), (115, .iload_n 1, 1), (116, .invokevirtual 200, 3), (119, .ifCond .eq 7, 3), (122, .iconst 1, 1), (123, .goto 4, 3), (126, .iconst 0, 1), (127, .ireturn, 1)], [(128, .aload_n 0, 1), (129, .getfield 26, 3), (132, .iload_n 1, 1), (133, .invokevirtual 203, 3), (136, .ireturn, 1), (137, .aload_n 0, 1), (138, .getfield 26, 3), (141, .iload_n 1, 1), (142, .invokevirtual 206, 3)], [(145, .ireturn, 1), (146, .aload_n 0, 1), (147, .getfield 26, 3), (150, .getfield 120, 3), (153, .getfield 209, 3), (156, .iload_n 1, 1), (157, .iaload, 1), (158, .ireturn, 1), (159, .aload_n 0, 1)], [(160, .getfield 26, 3), (163, .getfield 120, 3), (166, .getfield 212, 3), (169, .iload_n 1, 1), (170, .iaload, 1), (171, .ireturn, 1), (172, .aload_n 0, 1), (173, .getfield 26, 3)], [(176, .getfield 120, 3), (179, .getfield 215, 3), (182, .iload_n 1, 1), (183, .iaload, 1), (184, .ireturn, 1), (185, .aload_n 0, 1), (186, .getfield 26, 3), (189, .getfield 120, 3)], [(192, .getfield 218, 3), (195, .iload_n 1, 1), (196, .iaload, 1), (197, .ireturn, 1), (198, .aload_n 0, 1), (199, .getfield 26, 3), (202, .getfield 120, 3), (205, .iload_n 1, 1), (206, .invokevirtual 221, 3)], [(209, .ireturn, 1), (210, .iconst (-1), 1), (211, .ireturn, 1)]]
def kp_144 : List (Nat × Nat × Nat × Int) := [(26, 1, 11, 2), (120, 1, 5, 0), (164, 2, 107, 1), (191, 2, 43, 1), (194, 2, 44, 1), (197, 2, 45, 1), (200, 2, 58, 1), (203, 2, 46, 1), (206, 2, 47, 1), (209, 1, 9, 12), (212, 1, 9, 9), (215, 1, 9, 10), (218, 1, 9, 11), (221, 2, 116, 1)]
def kr_144 : xR := (kc_144, kp_144, (3, 1, 0, 0, 11), yX11_person, cX11_person, (some .int))
abbrev cX11_fits : ByteArray := prog_1_method_11_code
def yX11_fits : MethodName := ⟨RX11, "fits", "(II)I"⟩
def kc_145 : List (List (Nat × Instr × Nat)) := [[(0, .aload_n 0, 1), (1, .getfield 26, 3), (4, .getfield 120, 3), (7, .iload_n 1, 1), (8, .invokevirtual 164, 3), (11, .ifCond .eq 29, 3), (14, .aload_n 0, 1), (15, .getfield 26, 3)], [(18, .getfield 120, 3), (21, .iload_n 2, 1), (22, .invokevirtual 153, 3), (25, .ifCond .eq 15, 3), (28, .aload_n 0, 1), (29, .getfield 26, 3)], [(32, .iload_n 1, 1), (33, .invokevirtual 194, 3), (36, .iload_n 2, 1), (37, .if_icmp .ne 5, 3), (40, .iconst (-1), 1), (41, .ireturn, 1), (42, .aload_n 0, 1), (43, .getfield 26, 3), (46, .iload_n 2, 1), (47, .iload_n 1, 1)], [(48, .invokevirtual 224, 3), (51, .ifCond .eq 7, 3), (54, .iconst 1, 1), (55, .goto 4, 3), (58, .iconst 0, 1), (59, .ireturn, 1)]]
def kp_145 : List (Nat × Nat × Nat × Int) := [(26, 1, 11, 2), (120, 1, 5, 0), (153, 2, 106, 1), (164, 2, 107, 1), (194, 2, 44, 1), (224, 2, 57, 2)]
def kr_145 : xR := (kc_145, kp_145, (3, 1, 0, 0, 11), yX11_fits, cX11_fits, (some .int))
abbrev cX11_takes : ByteArray := prog_1_method_12_code
def yX11_takes : MethodName := ⟨RX11, "takes", "(III)I"⟩
def kc_146 : List (List (Nat × Instr × Nat)) := [[(0, .aload_n 0, 1), (1, .getfield 26, 3), (4, .iload_n 1, 1), (5, .iload_n 2, 1), (6, .iload_n 3, 1), (7, .invokevirtual 228, 3), (10, .ireturn, 1)]]
def kp_146 : List (Nat × Nat × Nat × Int) := [(26, 1, 11, 2), (228, 2, 61, 3)]
def kr_146 : xR := (kc_146, kp_146, (4, 1, 0, 0, 11), yX11_takes, cX11_takes, (some .int))
abbrev cX11_go : ByteArray := prog_1_method_13_code
def yX11_go : MethodName := ⟨RX11, "go", "(III)I"⟩
def kc_147 : List (List (Nat × Instr × Nat)) := [[(0, .aload_n 0, 1), (1, .getfield 26, 3), (4, .iload_n 1, 1), (5, .iload_n 2, 1), (6, .iload_n 3, 1), (7, .invokevirtual 228, 3), (10, .istore 4, 2), (12, .iload 4, 2), (14, .iconst (-1), 1), (15, .if_icmp .ne 9, 3)], [(18, .aload_n 0, 1), (19, .iconst 2, 1), (20, .invokevirtual 81, 3), (23, .ireturn, 1), (24, .aload_n 0, 1), (25, .getfield 33, 3), (28, .aload_n 0, 1), (29, .getfield 26, 3)], [(32, .getfield 232, 3), (35, .invokevirtual 235, 3), (38, .aload_n 0, 1), (39, .iload_n 1, 1), (40, .iload_n 2, 1), (41, .iload_n 3, 1), (42, .iload 4, 2), (44, .invokevirtual 239, 3), (47, .aload_n 0, 1)], [(48, .getfield 26, 3), (51, .iload_n 1, 1), (52, .invokevirtual 203, 3), (55, .ireturn, 1)]]
def kp_147 : List (Nat × Nat × Nat × Int) := [(26, 1, 11, 2), (33, 1, 11, 3), (81, 2, 165, 1), (203, 2, 46, 1), (228, 2, 61, 3), (232, 1, 5, 2), (235, 2, 16, 1), (239, 2, 169, 4)]
def kr_147 : xR := (kc_147, kp_147, (5, 1, 0, 0, 11), yX11_go, cX11_go, (some .int))
abbrev cX11_stay : ByteArray := prog_1_method_14_code
def yX11_stay : MethodName := ⟨RX11, "stay", "(II)I"⟩
def kc_148 : List (List (Nat × Instr × Nat)) := [[(0, .aload_n 0, 1), (1, .getfield 26, 3), (4, .getfield 120, 3), (7, .iload_n 1, 1), (8, .invokevirtual 164, 3), (11, .ifCond .eq 15, 3), (14, .iload_n 2, 1), (15, .iconst 1, 1)], [(16, .if_icmp .lt 10, 3), (19, .iload_n 2, 1), (20, .sipush 999, 3), (23, .if_icmp .le 9, 3), (26, .aload_n 0, 1), (27, .iconst 2, 1), (28, .invokevirtual 81, 3), (31, .ireturn, 1)], [(32, .aload_n 0, 1), (33, .getfield 33, 3), (36, .aload_n 0, 1), (37, .getfield 26, 3), (40, .getfield 232, 3), (43, .invokevirtual 235, 3), (46, .aload_n 0, 1), (47, .getfield 26, 3)], [(50, .iload_n 1, 1), (51, .iload_n 2, 1), (52, .invokevirtual 243, 3), (55, .aload_n 0, 1), (56, .getfield 26, 3), (59, .iload_n 1, 1), (60, .invokevirtual 206, 3), (63, .ireturn, 1)]]
def kp_148 : List (Nat × Nat × Nat × Int) := [(26, 1, 11, 2), (33, 1, 11, 3), (81, 2, 165, 1), (120, 1, 5, 0), (164, 2, 107, 1), (206, 2, 47, 1), (232, 1, 5, 2), (235, 2, 16, 1), (243, 2, 69, 2)]
def kr_148 : xR := (kc_148, kp_148, (3, 1, 0, 0, 11), yX11_stay, cX11_stay, (some .int))
abbrev cX11_mend : ByteArray := prog_1_method_15_code
def yX11_mend : MethodName := ⟨RX11, "mend", "(II)Z"⟩
def kc_149 : List (List (Nat × Instr × Nat)) := [[(0, .aload_n 0, 1), (1, .getfield 26, 3), (4, .iload_n 1, 1), (5, .iload_n 2, 1), (6, .invokevirtual 247, 3), (9, .ifCond .ne 11, 3), (12, .aload_n 0, 1), (13, .iconst 3, 1), (14, .invokevirtual 81, 3)], [(17, .pop, 1), (18, .iconst 0, 1), (19, .ireturn, 1), (20, .aload_n 0, 1), (21, .getfield 33, 3), (24, .aload_n 0, 1), (25, .getfield 26, 3), (28, .getfield 232, 3), (31, .invokevirtual 235, 3)], [(34, .aload_n 0, 1), (35, .getfield 26, 3), (38, .iload_n 1, 1), (39, .iload_n 2, 1), (40, .invokevirtual 250, 3), (43, .iconst 1, 1), (44, .ireturn, 1)]]
def kp_149 : List (Nat × Nat × Nat × Int) := [(26, 1, 11, 2), (33, 1, 11, 3), (81, 2, 165, 1), (232, 1, 5, 2), (235, 2, 16, 1), (247, 2, 70, 2), (250, 2, 71, 2)]
def kr_149 : xR := (kc_149, kp_149, (3, 2, 0, 0, 11), yX11_mend, cX11_mend, (some .boolean))
abbrev cX11_days : ByteArray := prog_1_method_16_code
def yX11_days : MethodName := ⟨RX11, "days", "(I)I"⟩
def kc_150 : List (List (Nat × Instr × Nat)) := [[(0, .iload_n 1, 1), (1, .iconst 1, 1), (2, .if_icmp .lt 9, 3), (5, .iload_n 1, 1), (6, .bipush 30, 2), (8, .if_icmp .le 9, 3), (11, .aload_n 0, 1), (12, .iconst 3, 1), (13, .invokevirtual 81, 3)], [(16, .ireturn, 1), (17, .aload_n 0, 1), (18, .getfield 33, 3), (21, .aload_n 0, 1), (22, .getfield 26, 3), (25, .getfield 232, 3), (28, .invokevirtual 235, 3), (31, .iconst 0, 1)], [(32, .istore_n 2, 1), (33, .iconst 0, 1), (34, .istore_n 3, 1), (35, .iload_n 3, 1), (36, .iload_n 1, 1), (37, .if_icmp .ge 42, 3), (40, .iconst 0, 1), (41, .istore 4, 2), (43, .iload 4, 2), (45, .aload_n 0, 1), (46, .getfield 26, 3)], [(49, .getfield 120, 3), (52, .getfield 128, 3), (55, .if_icmp .ge 18, 3), (58, .iload_n 2, 1), (59, .aload_n 0, 1), (60, .iload 4, 2), (62, .invokevirtual 253, 3)], [(65, .iadd, 1), (66, .istore_n 2, 1), (67, .iinc 4 1, 3), (70, .goto (-27), 3), (73, .iinc 3 1, 3), (76, .goto (-41), 3), (79, .iload_n 2, 1)], [(80, .ireturn, 1)]]
def kp_150 : List (Nat × Nat × Nat × Int) := [(26, 1, 11, 2), (33, 1, 11, 3), (81, 2, 165, 1), (120, 1, 5, 0), (128, 1, 9, 1), (232, 1, 5, 2), (235, 2, 16, 1), (253, 2, 170, 1)]
def kr_150 : xR := (kc_150, kp_150, (5, 1, 0, 0, 11), yX11_days, cX11_days, (some .int))
abbrev cX11_undo : ByteArray := prog_1_method_17_code
def yX11_undo : MethodName := ⟨RX11, "undo", "()Z"⟩
def kc_151 : List (List (Nat × Instr × Nat)) := [[(0, .aload_n 0, 1), (1, .getfield 33, 3), (4, .getfield 110, 3), (7, .ifCond .ne 11, 3), (10, .aload_n 0, 1), (11, .iconst 4, 1), (12, .invokevirtual 81, 3), (15, .pop, 1)], [(16, .iconst 0, 1), (17, .ireturn, 1), (18, .aload_n 0, 1), (19, .getfield 33, 3), (22, .aload_n 0, 1), (23, .getfield 26, 3), (26, .getfield 232, 3), (29, .invokevirtual 256, 3)], [(32, .iconst 1, 1), (33, .ireturn, 1)]]
def kp_151 : List (Nat × Nat × Nat × Int) := [(26, 1, 11, 2), (33, 1, 11, 3), (81, 2, 165, 1), (110, 1, 2, 2), (232, 1, 5, 2), (256, 2, 17, 1)]
def kr_151 : xR := (kc_151, kp_151, (1, 2, 0, 0, 11), yX11_undo, cX11_undo, (some .boolean))
abbrev cX11_seed : ByteArray := prog_1_method_18_code
def yX11_seed : MethodName := ⟨RX11, "seed", "(I)Z"⟩
def kc_152 : List (List (Nat × Instr × Nat)) := [[(0, .iload_n 1, 1), (1, .ifCond .ge 11, 3), (4, .aload_n 0, 1), (5, .iconst 5, 1), (6, .invokevirtual 81, 3), (9, .pop, 1), (10, .iconst 0, 1), (11, .ireturn, 1), (12, .aload_n 0, 1), (13, .iload_n 1, 1), (14, .putfield 75, 3)], [(17, .iconst 1, 1), (18, .ireturn, 1)]]
def kp_152 : List (Nat × Nat × Nat × Int) := [(75, 1, 11, 12), (81, 2, 165, 1)]
def kr_152 : xR := (kc_152, kp_152, (2, 2, 0, 0, 11), yX11_seed, cX11_seed, (some .boolean))
abbrev cX11_kept : ByteArray := prog_1_method_19_code
def yX11_kept : MethodName := ⟨RX11, "kept", "(II)I"⟩
def kc_153 : List (List (Nat × Instr × Nat)) := [[(0, .aload_n 0, 1), (1, .getfield 26, 3), (4, .iload_n 1, 1), (5, .iload_n 2, 1), (6, .invokevirtual 259, 3), (9, .ireturn, 1)]]
def kp_153 : List (Nat × Nat × Nat × Int) := [(26, 1, 11, 2), (259, 2, 67, 2)]
def kr_153 : xR := (kc_153, kp_153, (3, 1, 0, 0, 11), yX11_kept, cX11_kept, (some .int))
abbrev cX11_route : ByteArray := prog_1_method_20_code
def yX11_route : MethodName := ⟨RX11, "route", "(IIII)I"⟩
def kc_154 : List (List (Nat × Instr × Nat)) := [[(0, .aload_n 0, 1), (1, .getfield 26, 3), (4, .getfield 120, 3), (7, .iload_n 1, 1), (8, .invokevirtual 164, 3), (11, .ifCond .eq 12, 3), (14, .aload_n 0, 1), (15, .iload_n 2, 1)], [(16, .iload_n 3, 1), (17, .invokevirtual 262, 3), (20, .ifCond .ne 5, 3), (23, .iconst (-1), 1), (24, .ireturn, 1), (25, .aload_n 0, 1), (26, .getfield 40, 3), (29, .aload_n 0, 1), (30, .getfield 26, 3)], [(33, .iload_n 1, 1), (34, .iload_n 2, 1), (35, .invokevirtual 265, 3), (38, .aload_n 0, 1), (39, .getfield 40, 3), (42, .aload_n 0, 1), (43, .getfield 26, 3), (46, .getfield 120, 3)], [(49, .getfield 123, 3), (52, .aload_n 0, 1), (53, .getfield 26, 3), (56, .iload_n 2, 1), (57, .invokevirtual 194, 3), (60, .iload_n 3, 1), (61, .invokevirtual 269, 3)], [(64, .iload 4, 2), (66, .iconst (-1), 1), (67, .if_icmp .ne 13, 3), (70, .aload_n 0, 1), (71, .getfield 40, 3), (74, .getfield 273, 3), (77, .goto 12, 3)], [(80, .aload_n 0, 1), (81, .getfield 40, 3), (84, .iload 4, 2), (86, .invokevirtual 276, 3), (89, .ireturn, 1)]]
def kp_154 : List (Nat × Nat × Nat × Int) := [(26, 1, 11, 2), (40, 1, 11, 4), (120, 1, 5, 0), (123, 1, 9, 0), (164, 2, 107, 1), (194, 2, 44, 1), (262, 2, 167, 2), (265, 2, 33, 3), (269, 2, 36, 3), (273, 1, 4, 6), (276, 2, 39, 1)]
def kr_154 : xR := (kc_154, kp_154, (5, 1, 0, 0, 11), yX11_route, cX11_route, (some .int))
abbrev cX11_bearer : ByteArray := prog_1_method_21_code
def yX11_bearer : MethodName := ⟨RX11, "bearer", "(III)I"⟩
def kc_155 : List (List (Nat × Instr × Nat)) := [[(0, .aload_n 0, 1), (1, .iload_n 1, 1), (2, .iload_n 2, 1), (3, .invokevirtual 262, 3), (6, .ifCond .ne 5, 3), (9, .iconst (-1), 1), (10, .ireturn, 1), (11, .aload_n 0, 1), (12, .getfield 40, 3), (15, .aload_n 0, 1)], [(16, .getfield 26, 3), (19, .iload_n 1, 1), (20, .invokevirtual 279, 3), (23, .aload_n 0, 1), (24, .getfield 40, 3), (27, .aload_n 0, 1), (28, .getfield 26, 3), (31, .getfield 120, 3)], [(34, .getfield 123, 3), (37, .aload_n 0, 1), (38, .getfield 26, 3), (41, .iload_n 1, 1), (42, .invokevirtual 194, 3), (45, .iload_n 2, 1), (46, .invokevirtual 269, 3)], [(49, .iload_n 3, 1), (50, .iconst (-1), 1), (51, .if_icmp .ne 13, 3), (54, .aload_n 0, 1), (55, .getfield 40, 3), (58, .getfield 273, 3), (61, .goto 11, 3)], [(64, .aload_n 0, 1), (65, .getfield 40, 3), (68, .iload_n 3, 1), (69, .invokevirtual 283, 3), (72, .ireturn, 1)]]
def kp_155 : List (Nat × Nat × Nat × Int) := [(26, 1, 11, 2), (40, 1, 11, 4), (120, 1, 5, 0), (123, 1, 9, 0), (194, 2, 44, 1), (262, 2, 167, 2), (269, 2, 36, 3), (273, 1, 4, 6), (279, 2, 34, 2), (283, 2, 40, 1)]
def kr_155 : xR := (kc_155, kp_155, (4, 1, 0, 0, 11), yX11_bearer, cX11_bearer, (some .int))
abbrev cX11_errand : ByteArray := prog_1_method_22_code
def yX11_errand : MethodName := ⟨RX11, "errand", "(I)I"⟩
def kc_156 : List (List (Nat × Instr × Nat)) := [[(0, .aload_n 0, 1), (1, .getfield 47, 3), (4, .aload_n 0, 1), (5, .getfield 26, 3), (8, .aload_n 0, 1), (9, .getfield 10, 3), (12, .iload_n 1, 1), (13, .invokevirtual 286, 3)], [(16, .istore_n 2, 1), (17, .iload_n 2, 1), (18, .ifCond .eq 22, 3), (21, .aload_n 0, 1), (22, .getfield 47, 3), (25, .aload_n 0, 1), (26, .getfield 26, 3), (29, .aload_n 0, 1), (30, .getfield 10, 3)], [(33, .iload_n 1, 1), (34, .invokevirtual 290, 3), (37, .goto 8, 3), (40, .aload_n 0, 1), (41, .iconst 5, 1), (42, .invokevirtual 81, 3), (45, .istore_n 3, 1), (46, .aload_n 0, 1), (47, .getfield 10, 3)], [(50, .iconst 0, 1), (51, .putfield 78, 3), (54, .iload_n 3, 1), (55, .ireturn, 1)]]
def kp_156 : List (Nat × Nat × Nat × Int) := [(10, 1, 11, 0), (26, 1, 11, 2), (47, 1, 11, 5), (78, 1, 8, 1), (81, 2, 165, 1), (286, 2, 2, 3), (290, 2, 3, 3)]
def kr_156 : xR := (kc_156, kp_156, (4, 1, 0, 0, 11), yX11_errand, cX11_errand, (some .int))
abbrev cX11_along : ByteArray := prog_1_method_23_code
def yX11_along : MethodName := ⟨RX11, "along", "(I)I"⟩
def kc_157 : List (List (Nat × Instr × Nat)) := [[(0, .iload_n 1, 1), (1, .ifCond .lt 26, 3), (4, .iload_n 1, 1), (5, .aload_n 0, 1), (6, .getfield 47, 3), (9, .getfield 113, 3), (12, .if_icmp .ge 15, 3), (15, .aload_n 0, 1)], [(16, .getfield 47, 3), (19, .getfield 294, 3), (22, .iload_n 1, 1), (23, .iaload, 1), (24, .goto 4, 3), (27, .iconst (-1), 1), (28, .ireturn, 1)]]
def kp_157 : List (Nat × Nat × Nat × Int) := [(47, 1, 11, 5), (113, 1, 0, 2), (294, 1, 0, 1)]
def kr_157 : xR := (kc_157, kp_157, (2, 1, 0, 0, 11), yX11_along, cX11_along, (some .int))
abbrev cX11_seated : ByteArray := prog_1_method_24_code
def yX11_seated : MethodName := ⟨RX11, "seated", "(II)I"⟩
def kc_158 : List (List (Nat × Instr × Nat)) := [[(0, .aload_n 0, 1), (1, .getfield 26, 3), (4, .getfield 120, 3), (7, .iload_n 1, 1), (8, .invokevirtual 153, 3), (11, .ifCond .eq 23, 3), (14, .iload_n 2, 1), (15, .ifCond .lt 19, 3)], [(18, .iload_n 2, 1), (19, .iconst 1, 1), (20, .aload_n 0, 1), (21, .getfield 26, 3), (24, .getfield 120, 3), (27, .getfield 128, 3), (30, .ishl, 1), (31, .if_icmp .lt 5, 3)], [(34, .iconst (-1), 1), (35, .ireturn, 1), (36, .aload_n 0, 1), (37, .getfield 54, 3), (40, .aload_n 0, 1), (41, .getfield 26, 3), (44, .iload_n 1, 1), (45, .iload_n 2, 1), (46, .invokevirtual 297, 3)], [(49, .ireturn, 1)]]
def kp_158 : List (Nat × Nat × Nat × Int) := [(26, 1, 11, 2), (54, 1, 11, 6), (120, 1, 5, 0), (128, 1, 9, 1), (153, 2, 106, 1), (297, 2, 79, 3)]
def kr_158 : xR := (kc_158, kp_158, (3, 1, 0, 0, 11), yX11_seated, cX11_seated, (some .int))
abbrev cX11_standing : ByteArray := prog_1_method_25_code
def yX11_standing : MethodName := ⟨RX11, "standing", "()I"⟩
def kc_159 : List (List (Nat × Instr × Nat)) := [[(0, .aload_n 0, 1), (1, .getfield 54, 3), (4, .aload_n 0, 1), (5, .getfield 26, 3), (8, .getfield 120, 3), (11, .aload_n 0, 1), (12, .getfield 10, 3), (15, .invokevirtual 301, 3)], [(18, .istore_n 1, 1), (19, .iload_n 1, 1), (20, .ifCond .eq 17, 3), (23, .aload_n 0, 1), (24, .getfield 54, 3), (27, .aload_n 0, 1), (28, .getfield 26, 3), (31, .invokevirtual 304, 3)], [(34, .goto 8, 3), (37, .aload_n 0, 1), (38, .iconst 5, 1), (39, .invokevirtual 81, 3), (42, .istore_n 2, 1), (43, .aload_n 0, 1), (44, .getfield 10, 3), (47, .iconst 0, 1)], [(48, .putfield 78, 3), (51, .iload_n 2, 1), (52, .ireturn, 1)]]
def kp_159 : List (Nat × Nat × Nat × Int) := [(10, 1, 11, 0), (26, 1, 11, 2), (54, 1, 11, 6), (78, 1, 8, 1), (81, 2, 165, 1), (120, 1, 5, 0), (301, 2, 81, 2), (304, 2, 83, 1)]
def kr_159 : xR := (kc_159, kp_159, (3, 1, 0, 0, 11), yX11_standing, cX11_standing, (some .int))
abbrev cX11_where : ByteArray := prog_1_method_26_code
def yX11_where : MethodName := ⟨RX11, "where", "(II)I"⟩
def kc_160 : List (List (Nat × Instr × Nat)) := [[(0, .aload_n 0, 1), (1, .getfield 54, 3), (4, .getfield 116, 3), (7, .ifCond .eq 31, 3), (10, .aload_n 0, 1), (11, .getfield 26, 3), (14, .getfield 120, 3)], [(17, .iload_n 1, 1), (18, .invokevirtual 164, 3), (21, .ifCond .eq 17, 3), (24, .aload_n 0, 1), (25, .getfield 26, 3), (28, .getfield 120, 3), (31, .iload_n 2, 1)], [(32, .invokevirtual 153, 3), (35, .ifCond .ne 5, 3), (38, .iconst (-1), 1), (39, .ireturn, 1), (40, .aload_n 0, 1), (41, .getfield 54, 3), (44, .getfield 308, 3), (47, .iload_n 1, 1)], [(48, .bipush 8, 2), (50, .imul, 1), (51, .iload_n 2, 1), (52, .iadd, 1), (53, .iaload, 1), (54, .ireturn, 1)]]
def kp_160 : List (Nat × Nat × Nat × Int) := [(26, 1, 11, 2), (54, 1, 11, 6), (116, 1, 6, 6), (120, 1, 5, 0), (153, 2, 106, 1), (164, 2, 107, 1), (308, 1, 6, 5)]
def kr_160 : xR := (kc_160, kp_160, (3, 1, 0, 0, 11), yX11_where, cX11_where, (some .int))
abbrev cX11_image : ByteArray := prog_1_method_27_code
def yX11_image : MethodName := ⟨RX11, "image", "()I"⟩
def kc_161 : List (List (Nat × Instr × Nat)) := [[(0, .aload_n 0, 1), (1, .aload_n 0, 1), (2, .getfield 26, 3), (5, .aload_n 0, 1), (6, .getfield 62, 3), (9, .invokevirtual 311, 3), (12, .putfield 65, 3), (15, .aload_n 0, 1)], [(16, .getfield 65, 3), (19, .ireturn, 1)]]
def kp_161 : List (Nat × Nat × Nat × Int) := [(26, 1, 11, 2), (62, 1, 11, 8), (65, 1, 11, 9), (311, 2, 72, 1)]
def kr_161 : xR := (kc_161, kp_161, (1, 1, 0, 0, 11), yX11_image, cX11_image, (some .int))
abbrev cX11_octet : ByteArray := prog_1_method_28_code
def yX11_octet : MethodName := ⟨RX11, "octet", "(I)I"⟩
def kc_162 : List (List (Nat × Instr × Nat)) := [[(0, .iload_n 1, 1), (1, .ifCond .lt 20, 3), (4, .iload_n 1, 1), (5, .aload_n 0, 1), (6, .getfield 65, 3), (9, .if_icmp .ge 12, 3), (12, .aload_n 0, 1), (13, .getfield 62, 3)], [(16, .iload_n 1, 1), (17, .iaload, 1), (18, .goto 4, 3), (21, .iconst (-1), 1), (22, .ireturn, 1)]]
def kp_162 : List (Nat × Nat × Nat × Int) := [(62, 1, 11, 8), (65, 1, 11, 9)]
def kr_162 : xR := (kc_162, kp_162, (2, 1, 0, 0, 11), yX11_octet, cX11_octet, (some .int))
abbrev cX11_on : ByteArray := prog_1_method_29_code
def yX11_on : MethodName := ⟨RX11, "on", "()Z"⟩
def kc_163 : List (List (Nat × Instr × Nat)) := [[(0, .aload_n 0, 1), (1, .getfield 26, 3), (4, .aload_n 0, 1), (5, .getfield 10, 3), (8, .invokevirtual 315, 3), (11, .istore_n 1, 1), (12, .iload_n 1, 1), (13, .ifCond .eq 25, 3)], [(16, .aload_n 0, 1), (17, .getfield 26, 3), (20, .aload_n 0, 1), (21, .getfield 10, 3), (24, .invokevirtual 319, 3), (27, .aload_n 0, 1), (28, .getfield 33, 3), (31, .iconst 0, 1)], [(32, .putfield 110, 3), (35, .goto 9, 3), (38, .aload_n 0, 1), (39, .iconst 5, 1), (40, .invokevirtual 81, 3), (43, .pop, 1), (44, .aload_n 0, 1), (45, .getfield 10, 3)], [(48, .iconst 0, 1), (49, .putfield 78, 3), (52, .iload_n 1, 1), (53, .ireturn, 1)]]
def kp_163 : List (Nat × Nat × Nat × Int) := [(10, 1, 11, 0), (26, 1, 11, 2), (33, 1, 11, 3), (78, 1, 8, 1), (81, 2, 165, 1), (110, 1, 2, 2), (315, 2, 74, 1), (319, 2, 77, 1)]
def kr_163 : xR := (kc_163, kp_163, (2, 2, 0, 0, 11), yX11_on, cX11_on, (some .boolean))
abbrev cX11_status : ByteArray := prog_1_method_30_code
def yX11_status : MethodName := ⟨RX11, "status", "(I)I"⟩
def kc_164 : List (List (Nat × Instr × Nat)) := [[(0, .iload_n 1, 1), (1, .ifCond .lt 21, 3), (4, .iload_n 1, 1), (5, .aload_n 0, 1), (6, .getfield 58, 3), (9, .arraylength, 1), (10, .if_icmp .ge 12, 3), (13, .aload_n 0, 1), (14, .getfield 58, 3)], [(17, .iload_n 1, 1), (18, .iaload, 1), (19, .goto 4, 3), (22, .iconst (-1), 1), (23, .ireturn, 1)]]
def kp_164 : List (Nat × Nat × Nat × Int) := [(58, 1, 11, 7)]
def kr_164 : xR := (kc_164, kp_164, (2, 1, 0, 0, 11), yX11_status, cX11_status, (some .int))
abbrev cX11_refuse : ByteArray := prog_1_method_31_code
def yX11_refuse : MethodName := ⟨RX11, "refuse", "(I)I"⟩
def kc_165 : List (List (Nat × Instr × Nat)) := [[(0, .iload_n 1, 1), (1, .ifCond .lt 22, 3), (4, .iload_n 1, 1), (5, .aload_n 0, 1), (6, .getfield 58, 3), (9, .arraylength, 1), (10, .if_icmp .ge 13, 3), (13, .aload_n 0, 1), (14, .getfield 58, 3)], [(17, .iload_n 1, 1), (18, .dup2, 1), (19, .iaload, 1), (20, .iconst 1, 1), (21, .iadd, 1), (22, .iastore, 1), (23, .iconst (-1), 1), (24, .ireturn, 1)]]
def kp_165 : List (Nat × Nat × Nat × Int) := [(58, 1, 11, 7)]
def kr_165 : xR := (kc_165, kp_165, (2, 1, 0, 0, 11), yX11_refuse, cX11_refuse, (some .int))
abbrev cX11_canTravel : ByteArray := prog_1_method_33_code
def yX11_canTravel : MethodName := ⟨RX11, "canTravel", "(II)Z"⟩
def kc_167 : List (List (Nat × Instr × Nat)) := [[(0, .aload_n 0, 1), (1, .getfield 26, 3), (4, .getfield 120, 3), (7, .iload_n 1, 1), (8, .invokevirtual 164, 3), (11, .ifCond .eq 32, 3), (14, .aload_n 0, 1), (15, .getfield 26, 3)], [(18, .getfield 120, 3), (21, .iload_n 2, 1), (22, .invokevirtual 153, 3), (25, .ifCond .eq 18, 3), (28, .aload_n 0, 1), (29, .getfield 26, 3)], [(32, .iload_n 1, 1), (33, .invokevirtual 197, 3), (36, .ifCond .ne 7, 3), (39, .iconst 1, 1), (40, .goto 4, 3), (43, .iconst 0, 1), (44, .ireturn, 1)]]
def kp_167 : List (Nat × Nat × Nat × Int) := [(26, 1, 11, 2), (120, 1, 5, 0), (153, 2, 106, 1), (164, 2, 107, 1), (197, 2, 45, 1)]
def kr_167 : xR := (kc_167, kp_167, (3, 2, 0, 0, 11), yX11_canTravel, cX11_canTravel, (some .boolean))
abbrev cX12_init : ByteArray := prog_14_method_1_code
def yX12_init : MethodName := ⟨RX12, "<init>", "()V"⟩
def kc_171 : List (List (Nat × Instr × Nat)) := [[(0, .aload_n 0, 1), (1, .invokespecial 1, 3), (4, .aload_n 0, 1), (5, .sipush 1800, 3), (8, .newarray .int, 2), (10, .putfield 7, 3), (13, .aload_n 0, 1), (14, .iconst 0, 1), (15, .putfield 13, 3)], [(18, .aload_n 0, 1), (19, .iconst 0, 1), (20, .putfield 17, 3), (23, .aload_n 0, 1), (24, .iconst 0, 1), (25, .putfield 20, 3), (28, .aload_n 0, 1), (29, .iconst 0, 1), (30, .putfield 23, 3)], [(33, .aload_n 0, 1), (34, .iconst 0, 1), (35, .putfield 26, 3), (38, .aload_n 0, 1), (39, .iconst 0, 1), (40, .putfield 29, 3), (43, .aload_n 0, 1), (44, .lconst 0, 1), (45, .putfield 32, 3)], [(48, .aload_n 0, 1), (49, .iconst 0, 1), (50, .putfield 36, 3), (53, .aload_n 0, 1), (54, .iconst 0, 1), (55, .putfield 39, 3), (58, .aload_n 0, 1), (59, .iconst (-1), 1), (60, .putfield 42, 3), (63, .aload_n 0, 1)], [(64, .iconst 0, 1), (65, .putfield 45, 3), (68, .aload_n 0, 1), (69, .iconst (-1), 1), (70, .putfield 48, 3), (73, .aload_n 0, 1), (74, .iconst (-1), 1), (75, .putfield 51, 3), (78, .aload_n 0, 1), (79, .iconst 0, 1)], [(80, .putfield 54, 3), (83, .aload_n 0, 1), (84, .iconst 2, 1), (85, .newarray .int, 2), (87, .putfield 57, 3), (90, .aload_n 0, 1), (91, .bipush 16, 2), (93, .newarray .int, 2), (95, .putfield 60, 3)], [(98, .aload_n 0, 1), (99, .bipush 16, 2), (101, .newarray .int, 2), (103, .putfield 63, 3), (106, .aload_n 0, 1), (107, .sipush 128, 3), (110, .newarray .int, 2)], [(112, .putfield 66, 3), (115, .aload_n 0, 1), (116, .iconst 2, 1), (117, .newarray .int, 2), (119, .putfield 69, 3), (122, .aload_n 0, 1), (123, .bipush 16, 2), (125, .newarray .int, 2), (127, .putfield 72, 3)], [(130, .aload_n 0, 1), (131, .bipush 16, 2), (133, .newarray .int, 2), (135, .putfield 75, 3), (138, .aload_n 0, 1), (139, .bipush 16, 2), (141, .newarray .int, 2), (143, .putfield 78, 3)], [(146, .aload_n 0, 1), (147, .bipush 16, 2), (149, .newarray .int, 2), (151, .putfield 81, 3), (154, .aload_n 0, 1), (155, .bipush 16, 2), (157, .newarray .int, 2), (159, .putfield 84, 3)], [(162, .aload_n 0, 1), (163, .iconst 2, 1), (164, .newarray .int, 2), (166, .putfield 87, 3), (169, .aload_n 0, 1), (170, .iconst 2, 1), (171, .newarray .int, 2), (173, .putfield 90, 3)], [(176, .aload_n 0, 1), (177, .iconst 2, 1), (178, .newarray .int, 2), (180, .putfield 93, 3), (183, .aload_n 0, 1), (184, .iconst 2, 1), (185, .newarray .int, 2), (187, .putfield 96, 3), (190, .aload_n 0, 1), (191, .iconst 2, 1)], [(192, .newarray .int, 2), (194, .putfield 99, 3), (197, .aload_n 0, 1), (198, .iconst 2, 1), (199, .newarray .int, 2), (201, .putfield 102, 3), (204, .aload_n 0, 1), (205, .sipush 3200, 3)], [(208, .newarray .int, 2), (210, .putfield 105, 3), (213, .aload_n 0, 1), (214, .sipush 3200, 3), (217, .newarray .int, 2), (219, .putfield 108, 3), (222, .aload_n 0, 1), (223, .bipush 16, 2)], [(225, .newarray .long, 2), (227, .putfield 111, 3), (230, .aload_n 0, 1), (231, .bipush 16, 2), (233, .newarray .long, 2), (235, .putfield 115, 3), (238, .aload_n 0, 1), (239, .iconst 0, 1)], [(240, .putfield 118, 3), (243, .aload_n 0, 1), (244, .iconst 1, 1), (245, .putfield 121, 3), (248, .aload_n 0, 1), (249, .bipush 20, 2), (251, .newarray .int, 2), (253, .putfield 124, 3)], [(256, .aload_n 0, 1), (257, .bipush 20, 2), (259, .newarray .int, 2), (261, .putfield 127, 3), (264, .aload_n 0, 1), (265, .bipush 20, 2), (267, .newarray .boolean, 2), (269, .putfield 130, 3)], [(272, .aload_n 0, 1), (273, .bipush 20, 2), (275, .newarray .int, 2), (277, .putfield 134, 3), (280, .aload_n 0, 1), (281, .bipush 20, 2), (283, .newarray .int, 2), (285, .putfield 137, 3)], [(288, .aload_n 0, 1), (289, .iconst 0, 1), (290, .putfield 140, 3), (293, .aload_n 0, 1), (294, .iconst 0, 1), (295, .putfield 143, 3), (298, .aload_n 0, 1), (299, .sipush 500, 3), (302, .newarray .int, 2)], [(304, .putfield 146, 3), (307, .aload_n 0, 1), (308, .iconst 0, 1), (309, .putfield 149, 3), (312, .aload_n 0, 1), (313, .iconst 0, 1), (314, .putfield 152, 3), (317, .aload_n 0, 1), (318, .bipush 6, 2)], [(320, .newarray .int, 2), (322, .putfield 156, 3), (325, .aload_n 0, 1), (326, .sipush 176, 3), (329, .newarray .int, 2), (331, .putfield 159, 3), (334, .aload_n 0, 1), (335, .sipush 176, 3)], [(338, .newarray .int, 2), (340, .putfield 162, 3), (343, .aload_n 0, 1), (344, .sipush 176, 3), (347, .newarray .int, 2), (349, .putfield 165, 3)], [(352, .aload_n 0, 1), (353, .sipush 176, 3), (356, .newarray .int, 2), (358, .putfield 168, 3), (361, .aload_n 0, 1), (362, .sipush 176, 3), (365, .newarray .int, 2), (367, .putfield 171, 3)], [(370, .aload_n 0, 1), (371, .bipush 22, 2), (373, .newarray .int, 2), (375, .putfield 174, 3), (378, .aload_n 0, 1), (379, .sipush 880, 3), (382, .newarray .int, 2)], [(384, .putfield 177, 3), (387, .aload_n 0, 1), (388, .sipush 880, 3), (391, .newarray .int, 2), (393, .putfield 180, 3), (396, .aload_n 0, 1), (397, .sipush 880, 3)], [(400, .newarray .int, 2), (402, .putfield 183, 3), (405, .aload_n 0, 1), (406, .sipush 880, 3), (409, .newarray .int, 2), (411, .putfield 186, 3), (414, .aload_n 0, 1), (415, .iconst 0, 1)], [(416, .putfield 189, 3), (419, .aload_n 0, 1), (420, .iconst 0, 1), (421, .putfield 192, 3), (424, .aload_n 0, 1), (425, .lconst 1, 1), (426, .putfield 195, 3), (429, .aload_n 0, 1), (430, .sipush 500, 3)], [(433, .newarray .long, 2), (435, .putfield 198, 3), (438, .aload_n 0, 1), (439, .iconst 0, 1), (440, .putfield 201, 3), (443, .aload_n 0, 1), (444, .iconst 0, 1), (445, .putfield 204, 3)], [(448, .aload_n 0, 1), (449, .iconst 0, 1), (450, .putfield 207, 3), (453, .aload_n 0, 1), (454, .bipush 64, 2), (456, .newarray .int, 2), (458, .putfield 210, 3), (461, .aload_n 0, 1), (462, .bipush 64, 2)], [(464, .newarray .int, 2), (466, .putfield 213, 3), (469, .aload_n 0, 1), (470, .bipush 8, 2), (472, .newarray .int, 2), (474, .putfield 216, 3), (477, .aload_n 0, 1), (478, .iconst 0, 1), (479, .putfield 219, 3)], [(482, .aload_n 0, 1), (483, .bipush 12, 2), (485, .newarray .int, 2), (487, .putfield 222, 3), (490, .aload_n 0, 1), (491, .iconst 0, 1), (492, .putfield 225, 3), (495, .aload_n 0, 1)], [(496, .bipush 64, 2), (498, .newarray .int, 2), (500, .putfield 228, 3), (503, .aload_n 0, 1), (504, .iconst 0, 1), (505, .putfield 231, 3), (508, .aload_n 0, 1), (509, .bipush 8, 2), (511, .newarray .int, 2)], [(513, .putfield 234, 3), (516, .aload_n 0, 1), (517, .bipush 8, 2), (519, .newarray .int, 2), (521, .putfield 237, 3), (524, .aload_n 0, 1), (525, .sipush 600, 3)], [(528, .newarray .int, 2), (530, .putfield 240, 3), (533, .aload_n 0, 1), (534, .sipush 600, 3), (537, .newarray .int, 2), (539, .putfield 243, 3), (542, .aload_n 0, 1), (543, .bipush 8, 2)], [(545, .newarray .int, 2), (547, .putfield 246, 3), (550, .aload_n 0, 1), (551, .bipush 80, 2), (553, .newarray .int, 2), (555, .putfield 249, 3), (558, .aload_n 0, 1), (559, .iconst 0, 1)], [(560, .putfield 252, 3), (563, .aload_n 0, 1), (564, .getfield 87, 3), (567, .iconst 0, 1), (568, .iconst (-1), 1), (569, .iastore, 1), (570, .aload_n 0, 1), (571, .getfield 93, 3), (574, .iconst 0, 1), (575, .iconst (-1), 1)], [(576, .iastore, 1), (577, .aload_n 0, 1), (578, .getfield 102, 3), (581, .iconst 0, 1), (582, .iconst (-1), 1), (583, .iastore, 1), (584, .iconst 0, 1), (585, .istore_n 1, 1), (586, .iload_n 1, 1), (587, .bipush 16, 2), (589, .if_icmp .ge 16, 3)], [(592, .aload_n 0, 1), (593, .getfield 84, 3), (596, .iload_n 1, 1), (597, .iconst (-1), 1), (598, .iastore, 1), (599, .iinc 1 1, 3), (602, .goto (-16), 3), (605, .return_, 1)]]
def kp_171 : List (Nat × Nat × Nat × Int) := [(1, 5, 0, 0), (7, 1, 12, 0), (13, 1, 12, 1), (17, 1, 12, 2), (20, 1, 12, 3), (23, 1, 12, 4), (26, 1, 12, 5), (29, 1, 12, 6), (32, 1, 12, 7), (36, 1, 12, 8), (39, 1, 12, 9), (42, 1, 12, 10), (45, 1, 12, 11), (48, 1, 12, 12), (51, 1, 12, 13), (54, 1, 12, 14), (57, 1, 12, 15), (60, 1, 12, 16), (63, 1, 12, 17), (66, 1, 12, 18), (69, 1, 12, 19), (72, 1, 12, 20), (75, 1, 12, 21), (78, 1, 12, 22), (81, 1, 12, 23), (84, 1, 12, 24), (87, 1, 12, 25), (90, 1, 12, 26), (93, 1, 12, 27), (96, 1, 12, 28), (99, 1, 12, 29), (102, 1, 12, 30), (105, 1, 12, 31), (108, 1, 12, 32), (111, 1, 12, 33), (115, 1, 12, 34), (118, 1, 12, 35), (121, 1, 12, 36), (124, 1, 12, 37), (127, 1, 12, 38), (130, 1, 12, 39), (134, 1, 12, 40), (137, 1, 12, 41), (140, 1, 12, 42), (143, 1, 12, 43), (146, 1, 12, 44), (149, 1, 12, 45), (152, 1, 12, 46), (156, 1, 12, 47), (159, 1, 12, 48), (162, 1, 12, 49), (165, 1, 12, 50), (168, 1, 12, 51), (171, 1, 12, 52), (174, 1, 12, 53), (177, 1, 12, 54), (180, 1, 12, 55), (183, 1, 12, 56), (186, 1, 12, 57), (189, 1, 12, 58), (192, 1, 12, 59), (195, 1, 12, 60), (198, 1, 12, 61), (201, 1, 12, 62), (204, 1, 12, 63), (207, 1, 12, 64), (210, 1, 12, 65), (213, 1, 12, 66), (216, 1, 12, 67), (219, 1, 12, 68), (222, 1, 12, 69), (225, 1, 12, 70), (228, 1, 12, 71), (231, 1, 12, 72), (234, 1, 12, 73), (237, 1, 12, 74), (240, 1, 12, 75), (243, 1, 12, 76), (246, 1, 12, 77), (249, 1, 12, 78), (252, 1, 12, 79)]
def kr_171 : xR := (kc_171, kp_171, (2, 0, 50, 15532, 12), yX12_init, cX12_init, none)
abbrev cX12_is : ByteArray := prog_14_method_2_code
def yX12_is : MethodName := ⟨RX12, "is", "(III)Z"⟩
def kc_172 : List (List (Nat × Instr × Nat)) := [[(0, .iload_n 0, 1), (1, .iload_n 1, 1), (2, .if_icmp .lt 12, 3), (5, .iload_n 0, 1), (6, .iload_n 2, 1), (7, .if_icmp .gt 7, 3), (10, .iconst 1, 1), (11, .goto 4, 3), (14, .iconst 0, 1), (15, .ireturn, 1)]]
def kp_172 : List (Nat × Nat × Nat × Int) := []
def kr_172 : xR := (kc_172, kp_172, (3, 2, 0, 0, 12), yX12_is, cX12_is, (some .boolean))
abbrev cX12_put : ByteArray := prog_14_method_3_code
def yX12_put : MethodName := ⟨RX12, "put", "(I)V"⟩
def kc_173 : List (List (Nat × Instr × Nat)) := [[(0, .bipush 24, 2), (2, .istore_n 2, 1), (3, .iload_n 2, 1), (4, .ifCond .lt 35, 3), (7, .aload_n 0, 1), (8, .getfield 7, 3), (11, .aload_n 0, 1), (12, .getfield 13, 3), (15, .iload_n 1, 1)], [(16, .iload_n 2, 1), (17, .ishr, 1), (18, .sipush 255, 3), (21, .iand, 1), (22, .iastore, 1), (23, .aload_n 0, 1), (24, .dup, 1), (25, .getfield 13, 3), (28, .iconst 1, 1), (29, .iadd, 1), (30, .putfield 13, 3)], [(33, .iinc 2 (-8), 3), (36, .goto (-33), 3), (39, .return_, 1)]]
def kp_173 : List (Nat × Nat × Nat × Int) := [(7, 1, 12, 0), (13, 1, 12, 1)]
def kr_173 : xR := (kc_173, kp_173, (3, 0, 0, 0, 12), yX12_put, cX12_put, none)
abbrev cX12_feed : ByteArray := prog_14_method_4_code
def yX12_feed : MethodName := ⟨RX12, "feed", "(IIIII)I"⟩
def kc_174 : List (List (Nat × Instr × Nat)) := [[(0, .aload_n 0, 1), (1, .getfield 13, 3), (4, .bipush 20, 2), (6, .iadd, 1), (7, .sipush 1600, 3), (10, .if_icmp .le 9, 3), (13, .aload_n 0, 1), (14, .iconst 0, 1), (15, .invokevirtual 255, 3)], [(18, .ireturn, 1), (19, .aload_n 0, 1), (20, .iload_n 1, 1), (21, .invokevirtual 259, 3), (24, .aload_n 0, 1), (25, .iload_n 2, 1), (26, .invokevirtual 259, 3), (29, .aload_n 0, 1), (30, .iload_n 3, 1), (31, .invokevirtual 259, 3)], [(34, .aload_n 0, 1), (35, .iload 4, 2), (37, .invokevirtual 259, 3), (40, .aload_n 0, 1), (41, .iload 5, 2), (43, .invokevirtual 259, 3), (46, .aload_n 0, 1), (47, .getfield 13, 3)], [(50, .ireturn, 1)]]
def kp_174 : List (Nat × Nat × Nat × Int) := [(13, 1, 12, 1), (255, 2, 218, 1), (259, 2, 173, 1)]
def kr_174 : xR := (kc_174, kp_174, (6, 1, 0, 0, 12), yX12_feed, cX12_feed, (some .int))
abbrev cX12_end : ByteArray := prog_14_method_5_code
def yX12_end : MethodName := ⟨RX12, "end", "(I)Z"⟩
def kc_175 : List (List (Nat × Instr × Nat)) := [[(0, .iload_n 1, 1), (1, .ifCond .lt 11, 3), (4, .iload_n 1, 1), (5, .aload_n 0, 1), (6, .getfield 13, 3), (9, .if_icmp .le 17, 3), (12, .aload_n 0, 1), (13, .iconst 0, 1), (14, .invokevirtual 255, 3)], [(17, .ifCond .lt 7, 3), (20, .iconst 1, 1), (21, .goto 4, 3), (24, .iconst 0, 1), (25, .ireturn, 1), (26, .aload_n 0, 1), (27, .iload_n 1, 1), (28, .putfield 13, 3), (31, .iconst 1, 1)], [(32, .ireturn, 1)]]
def kp_175 : List (Nat × Nat × Nat × Int) := [(13, 1, 12, 1), (255, 2, 218, 1)]
def kr_175 : xR := (kc_175, kp_175, (2, 2, 0, 0, 12), yX12_end, cX12_end, (some .boolean))
abbrev cX12_ahead : ByteArray := prog_14_method_10_code
def yX12_ahead : MethodName := ⟨RX12, "ahead", "()V"⟩
def kc_180 : List (List (Nat × Instr × Nat)) := [[(0, .aload_n 0, 1), (1, .getfield 26, 3), (4, .istore_n 1, 1), (5, .iload_n 1, 1), (6, .aload_n 0, 1), (7, .getfield 17, 3), (10, .if_icmp .ge 31, 3), (13, .aload_n 0, 1), (14, .getfield 7, 3)], [(17, .iload_n 1, 1), (18, .iaload, 1), (19, .bipush 32, 2), (21, .if_icmp .eq 14, 3), (24, .aload_n 0, 1), (25, .getfield 7, 3), (28, .iload_n 1, 1), (29, .iaload, 1), (30, .bipush 10, 2)], [(32, .if_icmp .ne 9, 3), (35, .iinc 1 1, 3), (38, .goto (-33), 3), (41, .aload_n 0, 1), (42, .iload_n 1, 1), (43, .putfield 23, 3), (46, .aload_n 0, 1), (47, .iload_n 1, 1)], [(48, .putfield 26, 3), (51, .aload_n 0, 1), (52, .iconst 0, 1), (53, .putfield 20, 3), (56, .aload_n 0, 1), (57, .iconst (-1), 1), (58, .putfield 51, 3), (61, .iload_n 1, 1), (62, .aload_n 0, 1), (63, .getfield 17, 3)], [(66, .if_icmp .lt 4, 3), (69, .return_, 1), (70, .aload_n 0, 1), (71, .getfield 7, 3), (74, .iload_n 1, 1), (75, .iaload, 1), (76, .invokestatic 267, 3), (79, .istore_n 2, 1)], [(80, .aload_n 0, 1), (81, .getfield 7, 3), (84, .iload_n 1, 1), (85, .iaload, 1), (86, .invokestatic 271, 3), (89, .istore_n 3, 1), (90, .iload_n 2, 1), (91, .ifCond .ne 7, 3), (94, .iload_n 3, 1), (95, .ifCond .eq 40, 3)], [(98, .iload_n 1, 1), (99, .ifCond .le 36, 3), (102, .aload_n 0, 1), (103, .getfield 7, 3), (106, .iload_n 1, 1), (107, .iconst 1, 1), (108, .isub, 1), (109, .iaload, 1), (110, .invokestatic 267, 3)], [(113, .ifCond .ne 17, 3), (116, .aload_n 0, 1), (117, .getfield 7, 3), (120, .iload_n 1, 1), (121, .iconst 1, 1), (122, .isub, 1), (123, .iaload, 1), (124, .invokestatic 271, 3), (127, .ifCond .eq 8, 3)], [(130, .aload_n 0, 1), (131, .iload_n 1, 1), (132, .putfield 51, 3), (135, .aload_n 0, 1), (136, .iconst 0, 1), (137, .putfield 29, 3), (140, .aload_n 0, 1), (141, .lconst 0, 1), (142, .putfield 32, 3)], [(145, .aload_n 0, 1), (146, .iconst 3, 1), (147, .putfield 20, 3), (150, .aload_n 0, 1), (151, .iload_n 1, 1), (152, .iconst 1, 1), (153, .iadd, 1), (154, .putfield 26, 3), (157, .iload_n 2, 1), (158, .ifCond .ne 18, 3)], [(161, .iload_n 3, 1), (162, .ifCond .ne 14, 3), (165, .aload_n 0, 1), (166, .aload_n 0, 1), (167, .getfield 7, 3), (170, .iload_n 1, 1), (171, .iaload, 1), (172, .putfield 29, 3), (175, .return_, 1)], [(176, .aload_n 0, 1), (177, .iload_n 2, 1), (178, .ifCond .eq 7, 3), (181, .iconst 1, 1), (182, .goto 4, 3), (185, .iconst 2, 1), (186, .putfield 20, 3), (189, .iload_n 2, 1), (190, .ifCond .eq 8, 3)], [(193, .bipush 6, 2), (195, .goto 4, 3), (198, .iconst 4, 1), (199, .istore 4, 2), (201, .iconst 0, 1), (202, .istore 5, 2), (204, .iload_n 1, 1), (205, .aload_n 0, 1), (206, .getfield 17, 3)], [(209, .if_icmp .ge 142, 3), (212, .iload_n 2, 1), (213, .ifCond .eq 18, 3), (216, .aload_n 0, 1), (217, .getfield 7, 3), (220, .iload_n 1, 1), (221, .iaload, 1), (222, .invokestatic 267, 3)], [(225, .ifCond .eq 126, 3), (228, .goto 15, 3), (231, .aload_n 0, 1), (232, .getfield 7, 3), (235, .iload_n 1, 1), (236, .iaload, 1), (237, .invokestatic 271, 3)], [(240, .ifCond .eq 111, 3), (243, .iload 5, 2), (245, .iload 4, 2), (247, .if_icmp .ne 16, 3), (250, .aload_n 0, 1), (251, .getfield 51, 3), (254, .iconst (-1), 1), (255, .if_icmp .ne 8, 3)], [(258, .aload_n 0, 1), (259, .iload_n 1, 1), (260, .putfield 51, 3), (263, .iload 5, 2), (265, .bipush 8, 2), (267, .if_icmp .ge 26, 3), (270, .iload_n 2, 1), (271, .ifCond .eq 22, 3)], [(274, .aload_n 0, 1), (275, .aload_n 0, 1), (276, .getfield 32, 3), (279, .bipush 8, 2), (281, .lshl, 1), (282, .aload_n 0, 1), (283, .getfield 7, 3), (286, .iload_n 1, 1), (287, .iaload, 1)], [(288, .i2l, 1), (289, .lor, 1), (290, .putfield 32, 3), (293, .iload 5, 2), (295, .bipush 8, 2), (297, .if_icmp .ne 13, 3), (300, .aload_n 0, 1), (301, .aload_n 0, 1), (302, .getfield 7, 3)], [(305, .iload_n 1, 1), (306, .iaload, 1), (307, .putfield 36, 3), (310, .iload 5, 2), (312, .iload 4, 2), (314, .if_icmp .ge 28, 3), (317, .iload_n 3, 1), (318, .ifCond .eq 24, 3)], [(321, .aload_n 0, 1), (322, .bipush 10, 2), (324, .aload_n 0, 1), (325, .getfield 29, 3), (328, .imul, 1), (329, .aload_n 0, 1), (330, .getfield 7, 3), (333, .iload_n 1, 1), (334, .iaload, 1), (335, .iadd, 1)], [(336, .bipush 48, 2), (338, .isub, 1), (339, .putfield 29, 3), (342, .iinc 5 1, 3), (345, .iinc 1 1, 3), (348, .goto (-144), 3), (351, .aload_n 0, 1)], [(352, .iload_n 1, 1), (353, .putfield 26, 3), (356, .iload_n 2, 1), (357, .ifCond .eq 54, 3), (360, .iload 5, 2), (362, .bipush 9, 2), (364, .if_icmp .ne 47, 3), (367, .aload_n 0, 1)], [(368, .getfield 32, 3), (371, .ldc2_w 274, 3), (374, .lcmp, 1), (375, .ifCond .ne 36, 3), (378, .aload_n 0, 1), (379, .getfield 36, 3), (382, .bipush 114, 2)], [(384, .if_icmp .ne 27, 3), (387, .aload_n 0, 1), (388, .lconst 1, 1), (389, .putfield 32, 3), (392, .aload_n 0, 1), (393, .getfield 51, 3), (396, .aload_n 0, 1), (397, .getfield 23, 3)], [(400, .iload 4, 2), (402, .iadd, 1), (403, .if_icmp .ne 8, 3), (406, .aload_n 0, 1), (407, .iconst (-1), 1), (408, .putfield 51, 3), (411, .iload_n 2, 1), (412, .ifCond .eq 40, 3), (415, .iload 5, 2)], [(417, .bipush 8, 2), (419, .if_icmp .gt 33, 3), (422, .aload_n 0, 1), (423, .getfield 51, 3), (426, .aload_n 0, 1), (427, .getfield 23, 3), (430, .iload 4, 2)], [(432, .iadd, 1), (433, .if_icmp .ne 19, 3), (436, .aload_n 0, 1), (437, .aload_n 0, 1), (438, .getfield 32, 3), (441, .invokevirtual 276, 3), (444, .ifCond .eq 8, 3), (447, .aload_n 0, 1)], [(448, .iconst (-1), 1), (449, .putfield 51, 3), (452, .return_, 1)]]
def kp_180 : List (Nat × Nat × Nat × Int) := [(7, 1, 12, 0), (17, 1, 12, 2), (20, 1, 12, 3), (23, 1, 12, 4), (26, 1, 12, 5), (29, 1, 12, 6), (32, 1, 12, 7), (36, 1, 12, 8), (51, 1, 12, 13), (267, 6, 177, 1), (271, 6, 178, 1), (274, 8, 0, 7161130709559440485), (276, 2, 184, 1)]
def kr_180 : xR := (kc_180, kp_180, (6, 0, 0, 0, 12), yX12_ahead, cX12_ahead, none)
abbrev cX12_manyOf : ByteArray := prog_14_method_15_code
def yX12_manyOf : MethodName := ⟨RX12, "manyOf", "(II)I"⟩
def kc_185 : List (List (Nat × Instr × Nat)) := [[(0, .iload_n 2, 1), (1, .ifCond .ne 12, 3), (4, .aload_n 0, 1), (5, .getfield 57, 3), (8, .iload_n 1, 1), (9, .iaload, 1), (10, .goto 9, 3), (13, .aload_n 0, 1), (14, .getfield 69, 3)], [(17, .iload_n 1, 1), (18, .iaload, 1), (19, .ireturn, 1)]]
def kp_185 : List (Nat × Nat × Nat × Int) := [(57, 1, 12, 15), (69, 1, 12, 19)]
def kr_185 : xR := (kc_185, kp_185, (3, 1, 0, 0, 12), yX12_manyOf, cX12_manyOf, (some .int))
abbrev cX12_town : ByteArray := prog_14_method_46_code
def yX12_town : MethodName := ⟨RX12, "town", "()I"⟩
def kc_216 : List (List (Nat × Instr × Nat)) := [[(0, .aload_n 0, 1), (1, .aload_n 0, 1), (2, .getfield 13, 3), (5, .putfield 17, 3), (8, .aload_n 0, 1), (9, .iconst 0, 1), (10, .putfield 13, 3), (13, .aload_n 0, 1), (14, .iconst 0, 1), (15, .putfield 26, 3)], [(18, .aload_n 0, 1), (19, .iconst 0, 1), (20, .putfield 39, 3), (23, .aload_n 0, 1), (24, .iconst (-1), 1), (25, .putfield 42, 3), (28, .aload_n 0, 1), (29, .iconst 1, 1), (30, .aload_n 0, 1), (31, .getfield 54, 3)], [(34, .isub, 1), (35, .putfield 121, 3), (38, .aload_n 0, 1), (39, .getfield 57, 3), (42, .aload_n 0, 1), (43, .getfield 121, 3), (46, .iconst 0, 1), (47, .iastore, 1)], [(48, .aload_n 0, 1), (49, .getfield 69, 3), (52, .aload_n 0, 1), (53, .getfield 121, 3), (56, .iconst 0, 1), (57, .iastore, 1), (58, .aload_n 0, 1), (59, .getfield 99, 3), (62, .aload_n 0, 1), (63, .getfield 121, 3)], [(66, .iconst 0, 1), (67, .iastore, 1), (68, .aload_n 0, 1), (69, .getfield 102, 3), (72, .aload_n 0, 1), (73, .getfield 121, 3), (76, .iconst (-1), 1), (77, .iastore, 1), (78, .aload_n 0, 1), (79, .getfield 87, 3)], [(82, .aload_n 0, 1), (83, .getfield 121, 3), (86, .iconst (-1), 1), (87, .iastore, 1), (88, .aload_n 0, 1), (89, .getfield 93, 3), (92, .aload_n 0, 1), (93, .getfield 121, 3)], [(96, .iconst (-1), 1), (97, .iastore, 1), (98, .aload_n 0, 1), (99, .iconst 0, 1), (100, .putfield 118, 3), (103, .iconst 0, 1), (104, .istore_n 1, 1), (105, .aload_n 0, 1), (106, .invokevirtual 286, 3), (109, .aload_n 0, 1), (110, .getfield 39, 3)], [(113, .ifCond .ne 25, 3), (116, .aload_n 0, 1), (117, .getfield 20, 3), (120, .ifCond .eq 18, 3), (123, .aload_n 0, 1), (124, .invokevirtual 440, 3), (127, .iinc 1 1, 3)], [(130, .aload_n 0, 1), (131, .iload_n 1, 1), (132, .invokevirtual 443, 3), (135, .goto (-26), 3), (138, .aload_n 0, 1), (139, .aload_n 0, 1), (140, .getfield 39, 3), (143, .putfield 45, 3)], [(146, .aload_n 0, 1), (147, .aload_n 0, 1), (148, .getfield 42, 3), (151, .putfield 48, 3), (154, .aload_n 0, 1), (155, .getfield 39, 3), (158, .ifCond .le 9, 3)], [(161, .aload_n 0, 1), (162, .iconst 1, 1), (163, .invokevirtual 255, 3), (166, .ireturn, 1), (167, .aload_n 0, 1), (168, .aload_n 0, 1), (169, .getfield 121, 3), (172, .putfield 54, 3), (175, .aload_n 0, 1)], [(176, .invokevirtual 446, 3), (179, .iload_n 1, 1), (180, .ireturn, 1)]]
def kp_216 : List (Nat × Nat × Nat × Int) := [(13, 1, 12, 1), (17, 1, 12, 2), (20, 1, 12, 3), (26, 1, 12, 5), (39, 1, 12, 9), (42, 1, 12, 10), (45, 1, 12, 11), (48, 1, 12, 12), (54, 1, 12, 14), (57, 1, 12, 15), (69, 1, 12, 19), (87, 1, 12, 25), (93, 1, 12, 27), (99, 1, 12, 29), (102, 1, 12, 30), (118, 1, 12, 35), (121, 1, 12, 36), (255, 2, 218, 1), (286, 2, 180, 0), (440, 2, 214, 0), (443, 2, 215, 1), (446, 2, 225, 0)]
def kr_216 : xR := (kc_216, kp_216, (2, 1, 0, 0, 12), yX12_town, cX12_town, (some .int))
abbrev cX12_fault : ByteArray := prog_14_method_47_code
def yX12_fault : MethodName := ⟨RX12, "fault", "(I)I"⟩
def kc_217 : List (List (Nat × Instr × Nat)) := [[(0, .iload_n 1, 1), (1, .ifCond .ne 10, 3), (4, .aload_n 0, 1), (5, .getfield 45, 3), (8, .goto 16, 3), (11, .iload_n 1, 1), (12, .iconst 1, 1), (13, .if_icmp .ne 10, 3)], [(16, .aload_n 0, 1), (17, .getfield 48, 3), (20, .goto 4, 3), (23, .iconst (-1), 1), (24, .ireturn, 1)]]
def kp_217 : List (Nat × Nat × Nat × Int) := [(45, 1, 12, 11), (48, 1, 12, 12)]
def kr_217 : xR := (kc_217, kp_217, (2, 1, 0, 0, 12), yX12_fault, cX12_fault, (some .int))
abbrev cX12_refuses : ByteArray := prog_14_method_48_code
def yX12_refuses : MethodName := ⟨RX12, "refuses", "(I)I"⟩
def kc_218 : List (List (Nat × Instr × Nat)) := [[(0, .aload_n 0, 1), (1, .getfield 156, 3), (4, .iload_n 1, 1), (5, .dup2, 1), (6, .iaload, 1), (7, .iconst 1, 1), (8, .iadd, 1), (9, .iastore, 1), (10, .iconst (-1), 1), (11, .ireturn, 1)]]
def kp_218 : List (Nat × Nat × Nat × Int) := [(156, 1, 12, 47)]
def kr_218 : xR := (kc_218, kp_218, (2, 1, 0, 0, 12), yX12_refuses, cX12_refuses, (some .int))
abbrev cX12_status : ByteArray := prog_14_method_49_code
def yX12_status : MethodName := ⟨RX12, "status", "(I)I"⟩
def kc_219 : List (List (Nat × Instr × Nat)) := [[(0, .iload_n 1, 1), (1, .iconst 0, 1), (2, .iconst 5, 1), (3, .invokestatic 345, 3), (6, .ifCond .eq 12, 3), (9, .aload_n 0, 1), (10, .getfield 156, 3), (13, .iload_n 1, 1), (14, .iaload, 1), (15, .goto 4, 3)], [(18, .iconst (-1), 1), (19, .ireturn, 1)]]
def kp_219 : List (Nat × Nat × Nat × Int) := [(156, 1, 12, 47), (345, 6, 172, 3)]
def kr_219 : xR := (kc_219, kp_219, (2, 1, 0, 0, 12), yX12_status, cX12_status, (some .int))
abbrev cX12_isRoom : ByteArray := prog_14_method_50_code
def yX12_isRoom : MethodName := ⟨RX12, "isRoom", "(I)Z"⟩
def kc_220 : List (List (Nat × Instr × Nat)) := [[(0, .iload_n 1, 1), (1, .ifCond .lt 20, 3), (4, .iload_n 1, 1), (5, .aload_n 0, 1), (6, .getfield 57, 3), (9, .aload_n 0, 1), (10, .getfield 54, 3), (13, .iaload, 1), (14, .if_icmp .ge 7, 3)], [(17, .iconst 1, 1), (18, .goto 4, 3), (21, .iconst 0, 1), (22, .ireturn, 1)]]
def kp_220 : List (Nat × Nat × Nat × Int) := [(54, 1, 12, 14), (57, 1, 12, 15)]
def kr_220 : xR := (kc_220, kp_220, (2, 2, 0, 0, 12), yX12_isRoom, cX12_isRoom, (some .boolean))
abbrev cX12_isPerson : ByteArray := prog_14_method_51_code
def yX12_isPerson : MethodName := ⟨RX12, "isPerson", "(I)Z"⟩
def kc_221 : List (List (Nat × Instr × Nat)) := [[(0, .iload_n 1, 1), (1, .ifCond .lt 20, 3), (4, .iload_n 1, 1), (5, .aload_n 0, 1), (6, .getfield 69, 3), (9, .aload_n 0, 1), (10, .getfield 54, 3), (13, .iaload, 1), (14, .if_icmp .ge 7, 3)], [(17, .iconst 1, 1), (18, .goto 4, 3), (21, .iconst 0, 1), (22, .ireturn, 1)]]
def kp_221 : List (Nat × Nat × Nat × Int) := [(54, 1, 12, 14), (69, 1, 12, 19)]
def kr_221 : xR := (kc_221, kp_221, (2, 2, 0, 0, 12), yX12_isPerson, cX12_isPerson, (some .boolean))
abbrev cX12_copies : ByteArray := prog_14_method_54_code
def yX12_copies : MethodName := ⟨RX12, "copies", "(II)V"⟩
def kc_224 : List (List (Nat × Instr × Nat)) := [[(0, .iconst 0, 1), (1, .istore_n 3, 1), (2, .iload_n 3, 1), (3, .bipush 8, 2), (5, .if_icmp .ge 95, 3), (8, .bipush 8, 2), (10, .iload_n 1, 1), (11, .imul, 1), (12, .iload_n 3, 1), (13, .iadd, 1), (14, .istore 4, 2)], [(16, .bipush 8, 2), (18, .iload_n 2, 1), (19, .imul, 1), (20, .iload_n 3, 1), (21, .iadd, 1), (22, .istore 5, 2), (24, .aload_n 0, 1), (25, .getfield 159, 3), (28, .iload 4, 2), (30, .aload_n 0, 1), (31, .getfield 159, 3)], [(34, .iload 5, 2), (36, .iaload, 1), (37, .iastore, 1), (38, .aload_n 0, 1), (39, .getfield 162, 3), (42, .iload 4, 2), (44, .aload_n 0, 1), (45, .getfield 162, 3)], [(48, .iload 5, 2), (50, .iaload, 1), (51, .iastore, 1), (52, .aload_n 0, 1), (53, .getfield 165, 3), (56, .iload 4, 2), (58, .aload_n 0, 1), (59, .getfield 165, 3), (62, .iload 5, 2)], [(64, .iaload, 1), (65, .iastore, 1), (66, .aload_n 0, 1), (67, .getfield 168, 3), (70, .iload 4, 2), (72, .aload_n 0, 1), (73, .getfield 168, 3), (76, .iload 5, 2), (78, .iaload, 1), (79, .iastore, 1)], [(80, .aload_n 0, 1), (81, .getfield 171, 3), (84, .iload 4, 2), (86, .aload_n 0, 1), (87, .getfield 171, 3), (90, .iload 5, 2), (92, .iaload, 1), (93, .iastore, 1), (94, .iinc 3 1, 3)], [(97, .goto (-95), 3), (100, .aload_n 0, 1), (101, .getfield 174, 3), (104, .iload_n 1, 1), (105, .aload_n 0, 1), (106, .getfield 174, 3), (109, .iload_n 2, 1), (110, .iaload, 1), (111, .iastore, 1)], [(112, .iconst 0, 1), (113, .istore_n 3, 1), (114, .iload_n 3, 1), (115, .aload_n 0, 1), (116, .getfield 174, 3), (119, .iload_n 2, 1), (120, .iaload, 1), (121, .if_icmp .ge 97, 3), (124, .aload_n 0, 1), (125, .getfield 177, 3)], [(128, .bipush 40, 2), (130, .iload_n 1, 1), (131, .imul, 1), (132, .iload_n 3, 1), (133, .iadd, 1), (134, .aload_n 0, 1), (135, .getfield 177, 3), (138, .bipush 40, 2), (140, .iload_n 2, 1), (141, .imul, 1), (142, .iload_n 3, 1), (143, .iadd, 1)], [(144, .iaload, 1), (145, .iastore, 1), (146, .aload_n 0, 1), (147, .getfield 180, 3), (150, .bipush 40, 2), (152, .iload_n 1, 1), (153, .imul, 1), (154, .iload_n 3, 1), (155, .iadd, 1), (156, .aload_n 0, 1), (157, .getfield 180, 3)], [(160, .bipush 40, 2), (162, .iload_n 2, 1), (163, .imul, 1), (164, .iload_n 3, 1), (165, .iadd, 1), (166, .iaload, 1), (167, .iastore, 1), (168, .aload_n 0, 1), (169, .getfield 183, 3), (172, .bipush 40, 2), (174, .iload_n 1, 1), (175, .imul, 1)], [(176, .iload_n 3, 1), (177, .iadd, 1), (178, .aload_n 0, 1), (179, .getfield 183, 3), (182, .bipush 40, 2), (184, .iload_n 2, 1), (185, .imul, 1), (186, .iload_n 3, 1), (187, .iadd, 1), (188, .iaload, 1), (189, .iastore, 1), (190, .aload_n 0, 1), (191, .getfield 186, 3)], [(194, .bipush 40, 2), (196, .iload_n 1, 1), (197, .imul, 1), (198, .iload_n 3, 1), (199, .iadd, 1), (200, .aload_n 0, 1), (201, .getfield 186, 3), (204, .bipush 40, 2), (206, .iload_n 2, 1), (207, .imul, 1)], [(208, .iload_n 3, 1), (209, .iadd, 1), (210, .iaload, 1), (211, .iastore, 1), (212, .iinc 3 1, 3), (215, .goto (-101), 3), (218, .return_, 1)]]
def kp_224 : List (Nat × Nat × Nat × Int) := [(159, 1, 12, 48), (162, 1, 12, 49), (165, 1, 12, 50), (168, 1, 12, 51), (171, 1, 12, 52), (174, 1, 12, 53), (177, 1, 12, 54), (180, 1, 12, 55), (183, 1, 12, 56), (186, 1, 12, 57)]
def kr_224 : xR := (kc_224, kp_224, (6, 0, 0, 0, 12), yX12_copies, cX12_copies, none)
abbrev cX12_begin : ByteArray := prog_14_method_55_code
def yX12_begin : MethodName := ⟨RX12, "begin", "()V"⟩
def kc_225 : List (List (Nat × Instr × Nat)) := [[(0, .iconst 0, 1), (1, .istore_n 1, 1), (2, .iload_n 1, 1), (3, .bipush 8, 2), (5, .if_icmp .ge 70, 3), (8, .aload_n 0, 1), (9, .getfield 159, 3), (12, .iload_n 1, 1), (13, .aload_n 0, 1), (14, .getfield 81, 3)], [(17, .bipush 8, 2), (19, .aload_n 0, 1), (20, .getfield 54, 3), (23, .imul, 1), (24, .iload_n 1, 1), (25, .iadd, 1), (26, .iaload, 1), (27, .iastore, 1), (28, .aload_n 0, 1), (29, .getfield 162, 3)], [(32, .iload_n 1, 1), (33, .aload_n 0, 1), (34, .getfield 81, 3), (37, .bipush 8, 2), (39, .aload_n 0, 1), (40, .getfield 54, 3), (43, .imul, 1), (44, .iload_n 1, 1), (45, .iadd, 1), (46, .iaload, 1), (47, .iastore, 1)], [(48, .aload_n 0, 1), (49, .getfield 165, 3), (52, .iload_n 1, 1), (53, .iconst 0, 1), (54, .iastore, 1), (55, .aload_n 0, 1), (56, .getfield 168, 3), (59, .iload_n 1, 1), (60, .iconst 0, 1), (61, .iastore, 1), (62, .aload_n 0, 1), (63, .getfield 171, 3)], [(66, .iload_n 1, 1), (67, .iconst 0, 1), (68, .iastore, 1), (69, .iinc 1 1, 3), (72, .goto (-70), 3), (75, .aload_n 0, 1), (76, .getfield 174, 3), (79, .iconst 0, 1)], [(80, .iconst 0, 1), (81, .iastore, 1), (82, .aload_n 0, 1), (83, .iconst 0, 1), (84, .putfield 192, 3), (87, .aload_n 0, 1), (88, .iconst 0, 1), (89, .putfield 225, 3), (92, .aload_n 0, 1), (93, .iconst 0, 1), (94, .putfield 219, 3)], [(97, .return_, 1)]]
def kp_225 : List (Nat × Nat × Nat × Int) := [(54, 1, 12, 14), (81, 1, 12, 23), (159, 1, 12, 48), (162, 1, 12, 49), (165, 1, 12, 50), (168, 1, 12, 51), (171, 1, 12, 52), (174, 1, 12, 53), (192, 1, 12, 59), (219, 1, 12, 68), (225, 1, 12, 70)]
def kr_225 : xR := (kc_225, kp_225, (2, 0, 0, 0, 12), yX12_begin, cX12_begin, none)
abbrev cX12_ring : ByteArray := prog_14_method_56_code
def yX12_ring : MethodName := ⟨RX12, "ring", "(I)I"⟩
def kc_226 : List (List (Nat × Instr × Nat)) := [[(0, .iconst 2, 1), (1, .aload_n 0, 1), (2, .getfield 189, 3), (5, .iload_n 1, 1), (6, .iadd, 1), (7, .bipush 20, 2), (9, .irem, 1), (10, .iadd, 1), (11, .ireturn, 1)]]
def kp_226 : List (Nat × Nat × Nat × Int) := [(189, 1, 12, 58)]
def kr_226 : xR := (kc_226, kp_226, (2, 1, 0, 0, 12), yX12_ring, cX12_ring, (some .int))
abbrev cX12_keeps : ByteArray := prog_14_method_57_code
def yX12_keeps : MethodName := ⟨RX12, "keeps", "()V"⟩
def kc_227 : List (List (Nat × Instr × Nat)) := [[(0, .aload_n 0, 1), (1, .getfield 192, 3), (4, .bipush 20, 2), (6, .if_icmp .ne 26, 3), (9, .aload_n 0, 1), (10, .aload_n 0, 1), (11, .getfield 189, 3), (14, .iconst 1, 1), (15, .iadd, 1)], [(16, .bipush 20, 2), (18, .irem, 1), (19, .putfield 189, 3), (22, .aload_n 0, 1), (23, .dup, 1), (24, .getfield 192, 3), (27, .iconst 1, 1), (28, .isub, 1), (29, .putfield 192, 3)], [(32, .aload_n 0, 1), (33, .aload_n 0, 1), (34, .aload_n 0, 1), (35, .getfield 192, 3), (38, .invokevirtual 449, 3), (41, .iconst 0, 1), (42, .invokevirtual 452, 3), (45, .aload_n 0, 1), (46, .dup, 1), (47, .getfield 192, 3)], [(50, .iconst 1, 1), (51, .iadd, 1), (52, .putfield 192, 3), (55, .return_, 1)]]
def kp_227 : List (Nat × Nat × Nat × Int) := [(189, 1, 12, 58), (192, 1, 12, 59), (449, 2, 226, 1), (452, 2, 224, 2)]
def kr_227 : xR := (kc_227, kp_227, (1, 0, 0, 0, 12), yX12_keeps, cX12_keeps, none)
abbrev cX12_undo : ByteArray := prog_14_method_58_code
def yX12_undo : MethodName := ⟨RX12, "undo", "()Z"⟩
def kc_228 : List (List (Nat × Instr × Nat)) := [[(0, .aload_n 0, 1), (1, .getfield 192, 3), (4, .ifCond .ne 17, 3), (7, .aload_n 0, 1), (8, .iconst 4, 1), (9, .invokevirtual 255, 3), (12, .ifCond .lt 7, 3), (15, .iconst 1, 1)], [(16, .goto 4, 3), (19, .iconst 0, 1), (20, .ireturn, 1), (21, .aload_n 0, 1), (22, .dup, 1), (23, .getfield 192, 3), (26, .iconst 1, 1), (27, .isub, 1), (28, .putfield 192, 3), (31, .aload_n 0, 1)], [(32, .iconst 0, 1), (33, .aload_n 0, 1), (34, .aload_n 0, 1), (35, .getfield 192, 3), (38, .invokevirtual 449, 3), (41, .invokevirtual 452, 3), (44, .iconst 1, 1), (45, .ireturn, 1)]]
def kp_228 : List (Nat × Nat × Nat × Int) := [(192, 1, 12, 59), (255, 2, 218, 1), (449, 2, 226, 1), (452, 2, 224, 2)]
def kr_228 : xR := (kc_228, kp_228, (1, 2, 0, 0, 12), yX12_undo, cX12_undo, (some .boolean))
abbrev cX12_has : ByteArray := prog_14_method_76_code
def yX12_has : MethodName := ⟨RX12, "has", "(I)I"⟩
def kc_246 : List (List (Nat × Instr × Nat)) := [[(0, .iconst 0, 1), (1, .istore_n 2, 1), (2, .iload_n 1, 1), (3, .tableswitch 262 0 10 #[57, 67, 77, 87, 97, 136, 168, 212, 244, 251, 256], 57)], [], [], [(60, .aload_n 0, 1), (61, .getfield 57, 3)], [(64, .aload_n 0, 1), (65, .getfield 54, 3), (68, .iaload, 1), (69, .ireturn, 1), (70, .aload_n 0, 1), (71, .getfield 69, 3), (74, .aload_n 0, 1), (75, .getfield 54, 3), (78, .iaload, 1), (79, .ireturn, 1)], [(80, .aload_n 0, 1), (81, .getfield 99, 3), (84, .aload_n 0, 1), (85, .getfield 54, 3), (88, .iaload, 1), (89, .ireturn, 1), (90, .aload_n 0, 1), (91, .getfield 102, 3), (94, .aload_n 0, 1), (95, .getfield 54, 3)], [(98, .iaload, 1), (99, .ireturn, 1), (100, .iconst 0, 1), (101, .istore_n 3, 1), (102, .iload_n 3, 1), (103, .aload_n 0, 1), (104, .getfield 69, 3), (107, .aload_n 0, 1), (108, .getfield 54, 3), (111, .iaload, 1)], [(112, .if_icmp .ge 25, 3), (115, .iload_n 2, 1), (116, .aload_n 0, 1), (117, .iload_n 3, 1), (118, .invokevirtual 503, 3), (121, .ifCond .eq 7, 3), (124, .iconst 1, 1), (125, .goto 4, 3)], [(128, .iconst 0, 1), (129, .iadd, 1), (130, .istore_n 2, 1), (131, .iinc 3 1, 3), (134, .goto (-32), 3), (137, .iload_n 2, 1), (138, .ireturn, 1), (139, .iconst 0, 1), (140, .istore_n 3, 1), (141, .iload_n 3, 1), (142, .aload_n 0, 1), (143, .getfield 69, 3)], [(146, .aload_n 0, 1), (147, .getfield 54, 3), (150, .iaload, 1), (151, .if_icmp .ge 18, 3), (154, .iload_n 2, 1), (155, .aload_n 0, 1), (156, .getfield 165, 3), (159, .iload_n 3, 1)], [(160, .iaload, 1), (161, .iadd, 1), (162, .istore_n 2, 1), (163, .iinc 3 1, 3), (166, .goto (-25), 3), (169, .iload_n 2, 1), (170, .ireturn, 1), (171, .iconst 0, 1), (172, .istore_n 3, 1), (173, .iload_n 3, 1), (174, .aload_n 0, 1), (175, .getfield 69, 3)], [(178, .aload_n 0, 1), (179, .getfield 54, 3), (182, .iaload, 1), (183, .if_icmp .ge 30, 3), (186, .aload_n 0, 1), (187, .getfield 168, 3), (190, .iload_n 3, 1), (191, .iaload, 1)], [(192, .iload_n 2, 1), (193, .if_icmp .le 12, 3), (196, .aload_n 0, 1), (197, .getfield 168, 3), (200, .iload_n 3, 1), (201, .iaload, 1), (202, .goto 4, 3), (205, .iload_n 2, 1), (206, .istore_n 2, 1), (207, .iinc 3 1, 3)], [(210, .goto (-37), 3), (213, .iload_n 2, 1), (214, .ireturn, 1), (215, .iconst 0, 1), (216, .istore_n 3, 1), (217, .iload_n 3, 1), (218, .aload_n 0, 1), (219, .getfield 69, 3), (222, .aload_n 0, 1), (223, .getfield 54, 3)], [(226, .iaload, 1), (227, .if_icmp .ge 18, 3), (230, .iload_n 2, 1), (231, .aload_n 0, 1), (232, .getfield 171, 3), (235, .iload_n 3, 1), (236, .iaload, 1), (237, .iadd, 1), (238, .istore_n 2, 1), (239, .iinc 3 1, 3)], [(242, .goto (-25), 3), (245, .iload_n 2, 1), (246, .ireturn, 1), (247, .aload_n 0, 1), (248, .getfield 174, 3), (251, .iconst 0, 1), (252, .iaload, 1), (253, .ireturn, 1), (254, .aload_n 0, 1), (255, .getfield 192, 3)], [(258, .ireturn, 1), (259, .aload_n 0, 1), (260, .getfield 195, 3), (263, .l2i, 1), (264, .ireturn, 1), (265, .iconst (-1), 1), (266, .ireturn, 1)]]
def kp_246 : List (Nat × Nat × Nat × Int) := [(54, 1, 12, 14), (57, 1, 12, 15), (69, 1, 12, 19), (99, 1, 12, 29), (102, 1, 12, 30), (165, 1, 12, 50), (168, 1, 12, 51), (171, 1, 12, 52), (174, 1, 12, 53), (192, 1, 12, 59), (195, 1, 12, 60), (503, 2, 244, 1)]
def kr_246 : xR := (kc_246, kp_246, (4, 1, 0, 0, 12), yX12_has, cX12_has, (some .int))
abbrev cX12_letter : ByteArray := prog_14_method_77_code
def yX12_letter : MethodName := ⟨RX12, "letter", "(III)I"⟩
def kc_247 : List (List (Nat × Instr × Nat)) := [[(0, .iload_n 1, 1), (1, .iconst 0, 1), (2, .iconst 1, 1), (3, .invokestatic 345, 3), (6, .ifCond .eq 31, 3), (9, .iload_n 2, 1), (10, .iconst 0, 1), (11, .aload_n 0, 1), (12, .aload_n 0, 1), (13, .getfield 54, 3)], [(16, .iload_n 1, 1), (17, .invokevirtual 337, 3), (20, .iconst 1, 1), (21, .isub, 1), (22, .invokestatic 345, 3), (25, .ifCond .eq 12, 3), (28, .iload_n 3, 1), (29, .iconst 0, 1), (30, .iconst 5, 1), (31, .invokestatic 345, 3)], [(34, .ifCond .ne 5, 3), (37, .iconst (-1), 1), (38, .ireturn, 1), (39, .aload_n 0, 1), (40, .aload_n 0, 1), (41, .getfield 54, 3), (44, .iload_n 1, 1), (45, .iload_n 2, 1), (46, .invokevirtual 341, 3)], [(49, .lstore 4, 2), (51, .iconst 0, 1), (52, .istore 6, 2), (54, .lload 4, 2), (56, .lstore 7, 2), (58, .lload 7, 2), (60, .lconst 0, 1), (61, .lcmp, 1), (62, .ifCond .le 16, 3)], [(65, .iinc 6 1, 3), (68, .lload 7, 2), (70, .bipush 8, 2), (72, .lshr, 1), (73, .lstore 7, 2), (75, .goto (-17), 3), (78, .iload_n 3, 1), (79, .iload 6, 2)], [(81, .if_icmp .lt 7, 3), (84, .iconst 0, 1), (85, .goto 25, 3), (88, .lload 4, 2), (90, .bipush 8, 2), (92, .iload 6, 2), (94, .iconst 1, 1), (95, .isub, 1)], [(96, .iload_n 3, 1), (97, .isub, 1), (98, .imul, 1), (99, .lshr, 1), (100, .ldc2_w 506, 3), (103, .land, 1), (104, .l2i, 1), (105, .bipush 97, 2), (107, .isub, 1), (108, .iconst 1, 1), (109, .iadd, 1), (110, .ireturn, 1)]]
def kp_247 : List (Nat × Nat × Nat × Int) := [(54, 1, 12, 14), (337, 2, 185, 2), (341, 2, 186, 3), (345, 6, 172, 3), (506, 8, 0, 255)]
def kr_247 : xR := (kc_247, kp_247, (9, 1, 0, 0, 12), yX12_letter, cX12_letter, (some .int))
abbrev cX12_room : ByteArray := prog_14_method_78_code
def yX12_room : MethodName := ⟨RX12, "room", "(II)I"⟩
def kc_248 : List (List (Nat × Instr × Nat)) := [[(0, .aload_n 0, 1), (1, .iload_n 1, 1), (2, .invokevirtual 508, 3), (5, .ifCond .ne 5, 3), (8, .iconst (-1), 1), (9, .ireturn, 1), (10, .iconst 0, 1), (11, .istore_n 3, 1), (12, .iload_n 2, 1), (13, .tableswitch 226 0 5 #[39, 54, 69, 76, 123, 170], 39)], [], [], [(52, .aload_n 0, 1), (53, .getfield 60, 3), (56, .bipush 8, 2), (58, .aload_n 0, 1), (59, .getfield 54, 3), (62, .imul, 1), (63, .iload_n 1, 1)], [(64, .iadd, 1), (65, .iaload, 1), (66, .ireturn, 1), (67, .aload_n 0, 1), (68, .getfield 63, 3), (71, .bipush 8, 2), (73, .aload_n 0, 1), (74, .getfield 54, 3), (77, .imul, 1), (78, .iload_n 1, 1), (79, .iadd, 1)], [(80, .iaload, 1), (81, .ireturn, 1), (82, .aload_n 0, 1), (83, .iload_n 1, 1), (84, .iconst (-1), 1), (85, .invokevirtual 497, 3), (88, .ireturn, 1), (89, .iconst 0, 1), (90, .istore 4, 2), (92, .iload 4, 2), (94, .aload_n 0, 1), (95, .getfield 69, 3)], [(98, .aload_n 0, 1), (99, .getfield 54, 3), (102, .iaload, 1), (103, .if_icmp .ge 31, 3), (106, .iload_n 3, 1), (107, .aload_n 0, 1), (108, .getfield 159, 3), (111, .iload 4, 2)], [(113, .iaload, 1), (114, .iload_n 1, 1), (115, .if_icmp .ne 10, 3), (118, .iconst 1, 1), (119, .iload 4, 2), (121, .ishl, 1), (122, .goto 4, 3), (125, .iconst 0, 1), (126, .ior, 1), (127, .istore_n 3, 1)], [(128, .iinc 4 1, 3), (131, .goto (-39), 3), (134, .iload_n 3, 1), (135, .ireturn, 1), (136, .iconst 0, 1), (137, .istore 4, 2), (139, .iload 4, 2), (141, .aload_n 0, 1), (142, .getfield 69, 3)], [(145, .aload_n 0, 1), (146, .getfield 54, 3), (149, .iaload, 1), (150, .if_icmp .ge 31, 3), (153, .iload_n 3, 1), (154, .aload_n 0, 1), (155, .getfield 162, 3), (158, .iload 4, 2)], [(160, .iaload, 1), (161, .iload_n 1, 1), (162, .if_icmp .ne 10, 3), (165, .iconst 1, 1), (166, .iload 4, 2), (168, .ishl, 1), (169, .goto 4, 3), (172, .iconst 0, 1), (173, .ior, 1), (174, .istore_n 3, 1), (175, .iinc 4 1, 3)], [(178, .goto (-39), 3), (181, .iload_n 3, 1), (182, .ireturn, 1), (183, .iconst 0, 1), (184, .istore 4, 2), (186, .iload 4, 2), (188, .aload_n 0, 1), (189, .getfield 69, 3)], [(192, .aload_n 0, 1), (193, .getfield 54, 3), (196, .iaload, 1), (197, .if_icmp .ge 40, 3), (200, .iload_n 3, 1), (201, .aload_n 0, 1), (202, .getfield 159, 3), (205, .iload 4, 2), (207, .iaload, 1)], [(208, .iload_n 1, 1), (209, .if_icmp .ne 19, 3), (212, .aload_n 0, 1), (213, .iload 4, 2), (215, .invokevirtual 503, 3), (218, .ifCond .eq 10, 3), (221, .iconst 1, 1), (222, .iload 4, 2)], [(224, .ishl, 1), (225, .goto 4, 3), (228, .iconst 0, 1), (229, .ior, 1), (230, .istore_n 3, 1), (231, .iinc 4 1, 3), (234, .goto (-48), 3), (237, .iload_n 3, 1), (238, .ireturn, 1), (239, .iconst (-1), 1)], [(240, .ireturn, 1)]]
def kp_248 : List (Nat × Nat × Nat × Int) := [(54, 1, 12, 14), (60, 1, 12, 16), (63, 1, 12, 17), (69, 1, 12, 19), (159, 1, 12, 48), (162, 1, 12, 49), (497, 2, 240, 2), (503, 2, 244, 1), (508, 2, 220, 1)]
def kr_248 : xR := (kc_248, kp_248, (5, 1, 0, 0, 12), yX12_room, cX12_room, (some .int))
abbrev cX12_way : ByteArray := prog_14_method_79_code
def yX12_way : MethodName := ⟨RX12, "way", "(II)I"⟩
def kc_249 : List (List (Nat × Instr × Nat)) := [[(0, .aload_n 0, 1), (1, .iload_n 1, 1), (2, .invokevirtual 508, 3), (5, .ifCond .eq 29, 3), (8, .aload_n 0, 1), (9, .iload_n 2, 1), (10, .invokevirtual 508, 3), (13, .ifCond .eq 21, 3)], [(16, .aload_n 0, 1), (17, .iload_n 1, 1), (18, .iload_n 2, 1), (19, .invokevirtual 511, 3), (22, .ifCond .le 12, 3), (25, .aload_n 0, 1), (26, .iload_n 1, 1), (27, .iload_n 2, 1), (28, .invokevirtual 511, 3), (31, .goto 4, 3)], [(34, .iconst (-1), 1), (35, .ireturn, 1)]]
def kp_249 : List (Nat × Nat × Nat × Int) := [(508, 2, 220, 1), (511, 2, 245, 2)]
def kr_249 : xR := (kc_249, kp_249, (3, 1, 0, 0, 12), yX12_way, cX12_way, (some .int))
abbrev cX12_person : ByteArray := prog_14_method_80_code
def yX12_person : MethodName := ⟨RX12, "person", "(II)I"⟩
def kc_250 : List (List (Nat × Instr × Nat)) := [[(0, .aload_n 0, 1), (1, .iload_n 1, 1), (2, .invokevirtual 514, 3), (5, .ifCond .ne 5, 3), (8, .iconst (-1), 1), (9, .ireturn, 1), (10, .iload_n 2, 1), (11, .tableswitch 154 0 10 #[57, 64, 71, 78, 92, 99, 106, 112, 127, 142, 148], 57)], [], [], [], [(68, .aload_n 0, 1), (69, .getfield 159, 3), (72, .iload_n 1, 1), (73, .iaload, 1), (74, .ireturn, 1), (75, .aload_n 0, 1), (76, .getfield 162, 3), (79, .iload_n 1, 1)], [(80, .iaload, 1), (81, .ireturn, 1), (82, .aload_n 0, 1), (83, .getfield 165, 3), (86, .iload_n 1, 1), (87, .iaload, 1), (88, .ireturn, 1), (89, .aload_n 0, 1), (90, .iload_n 1, 1), (91, .invokevirtual 503, 3), (94, .ifCond .eq 7, 3)], [(97, .iconst 1, 1), (98, .goto 4, 3), (101, .iconst 0, 1), (102, .ireturn, 1), (103, .aload_n 0, 1), (104, .getfield 168, 3), (107, .iload_n 1, 1), (108, .iaload, 1), (109, .ireturn, 1), (110, .aload_n 0, 1), (111, .getfield 171, 3)], [(114, .iload_n 1, 1), (115, .iaload, 1), (116, .ireturn, 1), (117, .aload_n 0, 1), (118, .iload_n 1, 1), (119, .invokevirtual 487, 3), (122, .ireturn, 1), (123, .aload_n 0, 1), (124, .getfield 72, 3), (127, .bipush 8, 2)], [(129, .aload_n 0, 1), (130, .getfield 54, 3), (133, .imul, 1), (134, .iload_n 1, 1), (135, .iadd, 1), (136, .iaload, 1), (137, .ireturn, 1), (138, .aload_n 0, 1), (139, .getfield 75, 3), (142, .bipush 8, 2)], [(144, .aload_n 0, 1), (145, .getfield 54, 3), (148, .imul, 1), (149, .iload_n 1, 1), (150, .iadd, 1), (151, .iaload, 1), (152, .ireturn, 1), (153, .aload_n 0, 1), (154, .iload_n 1, 1), (155, .invokevirtual 484, 3), (158, .ireturn, 1), (159, .aload_n 0, 1)], [(160, .iload_n 1, 1), (161, .invokevirtual 490, 3), (164, .ireturn, 1), (165, .iconst (-1), 1), (166, .ireturn, 1)]]
def kp_250 : List (Nat × Nat × Nat × Int) := [(54, 1, 12, 14), (72, 1, 12, 20), (75, 1, 12, 21), (159, 1, 12, 48), (162, 1, 12, 49), (165, 1, 12, 50), (168, 1, 12, 51), (171, 1, 12, 52), (484, 2, 237, 1), (487, 2, 238, 1), (490, 2, 239, 1), (503, 2, 244, 1), (514, 2, 221, 1)]
def kr_250 : xR := (kc_250, kp_250, (3, 1, 0, 0, 12), yX12_person, cX12_person, (some .int))
abbrev cX12_fits : ByteArray := prog_14_method_81_code
def yX12_fits : MethodName := ⟨RX12, "fits", "(II)I"⟩
def kc_251 : List (List (Nat × Instr × Nat)) := [[(0, .aload_n 0, 1), (1, .iload_n 1, 1), (2, .invokevirtual 514, 3), (5, .ifCond .eq 21, 3), (8, .aload_n 0, 1), (9, .iload_n 2, 1), (10, .invokevirtual 508, 3), (13, .ifCond .eq 13, 3)], [(16, .aload_n 0, 1), (17, .getfield 162, 3), (20, .iload_n 1, 1), (21, .iaload, 1), (22, .iload_n 2, 1), (23, .if_icmp .ne 7, 3), (26, .iconst (-1), 1), (27, .goto 17, 3), (30, .aload_n 0, 1), (31, .iload_n 1, 1)], [(32, .iload_n 2, 1), (33, .invokevirtual 517, 3), (36, .ifCond .eq 7, 3), (39, .iconst 1, 1), (40, .goto 4, 3), (43, .iconst 0, 1), (44, .ireturn, 1)]]
def kp_251 : List (Nat × Nat × Nat × Int) := [(162, 1, 12, 49), (508, 2, 220, 1), (514, 2, 221, 1), (517, 2, 242, 2)]
def kr_251 : xR := (kc_251, kp_251, (3, 1, 0, 0, 12), yX12_fits, cX12_fits, (some .int))
abbrev cX12_canGo : ByteArray := prog_14_method_83_code
def yX12_canGo : MethodName := ⟨RX12, "canGo", "(III)Z"⟩
def kc_253 : List (List (Nat × Instr × Nat)) := [[(0, .aload_n 0, 1), (1, .iload_n 1, 1), (2, .invokevirtual 514, 3), (5, .ifCond .eq 39, 3), (8, .aload_n 0, 1), (9, .iload_n 2, 1), (10, .invokevirtual 508, 3), (13, .ifCond .eq 31, 3)], [(16, .aload_n 0, 1), (17, .aload_n 0, 1), (18, .getfield 159, 3), (21, .iload_n 1, 1), (22, .iaload, 1), (23, .iload_n 2, 1), (24, .invokevirtual 511, 3), (27, .ifCond .le 17, 3), (30, .aload_n 0, 1), (31, .iload_n 1, 1)], [(32, .iload_n 2, 1), (33, .iload_n 3, 1), (34, .invokevirtual 520, 3), (37, .ifCond .eq 7, 3), (40, .iconst 1, 1), (41, .goto 4, 3), (44, .iconst 0, 1), (45, .ireturn, 1)]]
def kp_253 : List (Nat × Nat × Nat × Int) := [(159, 1, 12, 48), (508, 2, 220, 1), (511, 2, 245, 2), (514, 2, 221, 1), (520, 2, 252, 3)]
def kr_253 : xR := (kc_253, kp_253, (4, 2, 0, 0, 12), yX12_canGo, cX12_canGo, (some .boolean))
abbrev cX12_takes : ByteArray := prog_14_method_85_code
def yX12_takes : MethodName := ⟨RX12, "takes", "(III)I"⟩
def kc_255 : List (List (Nat × Instr × Nat)) := [[(0, .aload_n 0, 1), (1, .iload_n 1, 1), (2, .iload_n 2, 1), (3, .iload_n 3, 1), (4, .invokevirtual 527, 3), (7, .ifCond .eq 13, 3), (10, .aload_n 0, 1), (11, .iload_n 1, 1), (12, .iload_n 2, 1), (13, .iload_n 3, 1), (14, .invokevirtual 530, 3)], [(17, .goto 4, 3), (20, .iconst (-1), 1), (21, .ireturn, 1)]]
def kp_255 : List (Nat × Nat × Nat × Int) := [(527, 2, 253, 3), (530, 2, 254, 3)]
def kr_255 : xR := (kc_255, kp_255, (4, 1, 0, 0, 12), yX12_takes, cX12_takes, (some .int))
abbrev cX12_go : ByteArray := prog_14_method_90_code
def yX12_go : MethodName := ⟨RX12, "go", "(III)I"⟩
def kc_260 : List (List (Nat × Instr × Nat)) := [[(0, .aload_n 0, 1), (1, .iload_n 1, 1), (2, .iload_n 2, 1), (3, .iload_n 3, 1), (4, .invokevirtual 527, 3), (7, .ifCond .ne 9, 3), (10, .aload_n 0, 1), (11, .iconst 2, 1), (12, .invokevirtual 255, 3), (15, .ireturn, 1)], [(16, .aload_n 0, 1), (17, .invokevirtual 552, 3), (20, .aload_n 0, 1), (21, .iload_n 1, 1), (22, .iload_n 2, 1), (23, .iload_n 3, 1), (24, .invokevirtual 555, 3), (27, .aload_n 0, 1), (28, .getfield 168, 3), (31, .iload_n 1, 1)], [(32, .iaload, 1), (33, .ireturn, 1)]]
def kp_260 : List (Nat × Nat × Nat × Int) := [(168, 1, 12, 51), (255, 2, 218, 1), (527, 2, 253, 3), (552, 2, 227, 0), (555, 2, 259, 3)]
def kr_260 : xR := (kc_260, kp_260, (4, 1, 0, 0, 12), yX12_go, cX12_go, (some .int))
abbrev cX12_stay : ByteArray := prog_14_method_92_code
def yX12_stay : MethodName := ⟨RX12, "stay", "(II)I"⟩
def kc_262 : List (List (Nat × Instr × Nat)) := [[(0, .aload_n 0, 1), (1, .iload_n 1, 1), (2, .invokevirtual 514, 3), (5, .ifCond .eq 14, 3), (8, .iload_n 2, 1), (9, .iconst 1, 1), (10, .sipush 999, 3), (13, .invokestatic 345, 3)], [(16, .ifCond .ne 9, 3), (19, .aload_n 0, 1), (20, .iconst 2, 1), (21, .invokevirtual 255, 3), (24, .ireturn, 1), (25, .aload_n 0, 1), (26, .invokevirtual 552, 3), (29, .aload_n 0, 1), (30, .iload_n 1, 1), (31, .iload_n 2, 1)], [(32, .invokevirtual 562, 3), (35, .aload_n 0, 1), (36, .getfield 171, 3), (39, .iload_n 1, 1), (40, .iaload, 1), (41, .ireturn, 1)]]
def kp_262 : List (Nat × Nat × Nat × Int) := [(171, 1, 12, 52), (255, 2, 218, 1), (345, 6, 172, 3), (514, 2, 221, 1), (552, 2, 227, 0), (562, 2, 261, 2)]
def kr_262 : xR := (kc_262, kp_262, (3, 1, 0, 0, 12), yX12_stay, cX12_stay, (some .int))
abbrev cX12_mend : ByteArray := prog_14_method_93_code
def yX12_mend : MethodName := ⟨RX12, "mend", "(II)Z"⟩
def kc_263 : List (List (Nat × Instr × Nat)) := [[(0, .aload_n 0, 1), (1, .iload_n 1, 1), (2, .invokevirtual 514, 3), (5, .ifCond .eq 74, 3), (8, .aload_n 0, 1), (9, .iload_n 2, 1), (10, .invokevirtual 514, 3), (13, .ifCond .eq 66, 3)], [(16, .aload_n 0, 1), (17, .getfield 102, 3), (20, .aload_n 0, 1), (21, .getfield 54, 3), (24, .iaload, 1), (25, .iconst (-1), 1), (26, .if_icmp .eq 53, 3), (29, .aload_n 0, 1), (30, .getfield 159, 3)], [(33, .iload_n 1, 1), (34, .iaload, 1), (35, .aload_n 0, 1), (36, .getfield 102, 3), (39, .aload_n 0, 1), (40, .getfield 54, 3), (43, .iaload, 1), (44, .if_icmp .ne 35, 3), (47, .aload_n 0, 1)], [(48, .getfield 162, 3), (51, .iload_n 2, 1), (52, .iaload, 1), (53, .aload_n 0, 1), (54, .getfield 102, 3), (57, .aload_n 0, 1), (58, .getfield 54, 3), (61, .iaload, 1), (62, .if_icmp .ne 17, 3)], [(65, .aload_n 0, 1), (66, .getfield 165, 3), (69, .iload_n 2, 1), (70, .iaload, 1), (71, .iconst 1, 1), (72, .if_icmp .ne 7, 3), (75, .iconst 1, 1), (76, .goto 4, 3), (79, .iconst 0, 1)], [(80, .istore_n 3, 1), (81, .iload_n 3, 1), (82, .ifCond .ne 17, 3), (85, .aload_n 0, 1), (86, .iconst 3, 1), (87, .invokevirtual 255, 3), (90, .ifCond .lt 7, 3), (93, .iconst 1, 1), (94, .goto 4, 3)], [(97, .iconst 0, 1), (98, .ireturn, 1), (99, .aload_n 0, 1), (100, .invokevirtual 552, 3), (103, .aload_n 0, 1), (104, .getfield 165, 3), (107, .iload_n 2, 1), (108, .iconst 0, 1), (109, .iastore, 1), (110, .aload_n 0, 1), (111, .iload_n 1, 1)], [(112, .bipush 30, 2), (114, .invokevirtual 542, 3), (117, .iconst 1, 1), (118, .ireturn, 1)]]
def kp_263 : List (Nat × Nat × Nat × Int) := [(54, 1, 12, 14), (102, 1, 12, 30), (159, 1, 12, 48), (162, 1, 12, 49), (165, 1, 12, 50), (255, 2, 218, 1), (514, 2, 221, 1), (542, 2, 258, 2), (552, 2, 227, 0)]
def kr_263 : xR := (kc_263, kp_263, (4, 2, 0, 0, 12), yX12_mend, cX12_mend, (some .boolean))
abbrev cX12_days : ByteArray := prog_14_method_96_code
def yX12_days : MethodName := ⟨RX12, "days", "(I)I"⟩
def kc_266 : List (List (Nat × Instr × Nat)) := [[(0, .iload_n 1, 1), (1, .iconst 1, 1), (2, .bipush 30, 2), (4, .invokestatic 345, 3), (7, .ifCond .ne 9, 3), (10, .aload_n 0, 1), (11, .iconst 3, 1), (12, .invokevirtual 255, 3), (15, .ireturn, 1)], [(16, .aload_n 0, 1), (17, .invokevirtual 552, 3), (20, .iconst 0, 1), (21, .istore_n 2, 1), (22, .iconst 0, 1), (23, .istore_n 3, 1), (24, .iload_n 3, 1), (25, .iload_n 1, 1), (26, .if_icmp .ge 49, 3), (29, .iconst 0, 1), (30, .istore 4, 2)], [(32, .iload 4, 2), (34, .aload_n 0, 1), (35, .getfield 69, 3), (38, .aload_n 0, 1), (39, .getfield 54, 3), (42, .iaload, 1), (43, .if_icmp .ge 26, 3), (46, .iload_n 2, 1), (47, .aload_n 0, 1)], [(48, .iload 4, 2), (50, .invokevirtual 568, 3), (53, .ifCond .eq 7, 3), (56, .iconst 1, 1), (57, .goto 4, 3), (60, .iconst 0, 1), (61, .iadd, 1), (62, .istore_n 2, 1), (63, .iinc 4 1, 3)], [(66, .goto (-34), 3), (69, .iinc 3 1, 3), (72, .goto (-48), 3), (75, .iload_n 2, 1), (76, .ireturn, 1)]]
def kp_266 : List (Nat × Nat × Nat × Int) := [(54, 1, 12, 14), (69, 1, 12, 19), (255, 2, 218, 1), (345, 6, 172, 3), (552, 2, 227, 0), (568, 2, 265, 1)]
def kr_266 : xR := (kc_266, kp_266, (5, 1, 0, 0, 12), yX12_days, cX12_days, (some .int))
abbrev cX12_seed : ByteArray := prog_14_method_97_code
def yX12_seed : MethodName := ⟨RX12, "seed", "(I)Z"⟩
def kc_267 : List (List (Nat × Instr × Nat)) := [[(0, .iload_n 1, 1), (1, .ifCond .ge 17, 3), (4, .aload_n 0, 1), (5, .iconst 5, 1), (6, .invokevirtual 255, 3), (9, .ifCond .lt 7, 3), (12, .iconst 1, 1), (13, .goto 4, 3)], [(16, .iconst 0, 1), (17, .ireturn, 1), (18, .aload_n 0, 1), (19, .iload_n 1, 1), (20, .i2l, 1), (21, .putfield 195, 3), (24, .iconst 1, 1), (25, .ireturn, 1)]]
def kp_267 : List (Nat × Nat × Nat × Int) := [(195, 1, 12, 60), (255, 2, 218, 1)]
def kr_267 : xR := (kc_267, kp_267, (2, 2, 0, 0, 12), yX12_seed, cX12_seed, (some .boolean))
abbrev cX12_kept : ByteArray := prog_14_method_98_code
def yX12_kept : MethodName := ⟨RX12, "kept", "(II)I"⟩
def kc_268 : List (List (Nat × Instr × Nat)) := [[(0, .iload_n 1, 1), (1, .iconst 0, 1), (2, .aload_n 0, 1), (3, .getfield 174, 3), (6, .iconst 0, 1), (7, .iaload, 1), (8, .iconst 1, 1), (9, .isub, 1), (10, .invokestatic 345, 3), (13, .ifCond .eq 12, 3)], [(16, .iload_n 2, 1), (17, .iconst 0, 1), (18, .iconst 3, 1), (19, .invokestatic 345, 3), (22, .ifCond .ne 5, 3), (25, .iconst (-1), 1), (26, .ireturn, 1), (27, .iload_n 2, 1), (28, .ifCond .ne 12, 3), (31, .aload_n 0, 1)], [(32, .getfield 177, 3), (35, .iload_n 1, 1), (36, .iaload, 1), (37, .goto 37, 3), (40, .iload_n 2, 1), (41, .iconst 1, 1), (42, .if_icmp .ne 12, 3), (45, .aload_n 0, 1), (46, .getfield 180, 3)], [(49, .iload_n 1, 1), (50, .iaload, 1), (51, .goto 23, 3), (54, .iload_n 2, 1), (55, .iconst 2, 1), (56, .if_icmp .ne 12, 3), (59, .aload_n 0, 1), (60, .getfield 183, 3), (63, .iload_n 1, 1)], [(64, .iaload, 1), (65, .goto 9, 3), (68, .aload_n 0, 1), (69, .getfield 186, 3), (72, .iload_n 1, 1), (73, .iaload, 1), (74, .ireturn, 1)]]
def kp_268 : List (Nat × Nat × Nat × Int) := [(174, 1, 12, 53), (177, 1, 12, 54), (180, 1, 12, 55), (183, 1, 12, 56), (186, 1, 12, 57), (345, 6, 172, 3)]
def kr_268 : xR := (kc_268, kp_268, (3, 1, 0, 0, 12), yX12_kept, cX12_kept, (some .int))
abbrev cX12_routing : ByteArray := prog_14_method_102_code
def yX12_routing : MethodName := ⟨RX12, "routing", "(IIIIZ)I"⟩
def kc_272 : List (List (Nat × Instr × Nat)) := [[(0, .aload_n 0, 1), (1, .iload_n 2, 1), (2, .invokevirtual 514, 3), (5, .ifCond .eq 27, 3), (8, .aload_n 0, 1), (9, .iload_n 3, 1), (10, .invokevirtual 508, 3), (13, .ifCond .eq 19, 3)], [(16, .aload_n 0, 1), (17, .getfield 165, 3), (20, .iload_n 2, 1), (21, .iaload, 1), (22, .iconst 1, 1), (23, .if_icmp .eq 9, 3), (26, .iload 4, 2), (28, .iconst (-1), 1), (29, .if_icmp .ge 5, 3)], [(32, .iconst (-1), 1), (33, .ireturn, 1), (34, .aload_n 0, 1), (35, .iload_n 1, 1), (36, .iload_n 2, 1), (37, .invokevirtual 572, 3), (40, .aload_n 0, 1), (41, .iload_n 3, 1), (42, .invokevirtual 575, 3), (45, .aload_n 0, 1), (46, .getfield 162, 3)], [(49, .iload_n 2, 1), (50, .iaload, 1), (51, .istore 6, 2), (53, .aload_n 0, 1), (54, .getfield 216, 3), (57, .iload 6, 2), (59, .iaload, 1), (60, .ldc_w 571, 3), (63, .if_icmp .lt 5, 3)], [(66, .iconst (-1), 1), (67, .ireturn, 1), (68, .iload 4, 2), (70, .iconst (-1), 1), (71, .if_icmp .ne 11, 3), (74, .aload_n 0, 1), (75, .getfield 216, 3), (78, .iload 6, 2)], [(80, .iaload, 1), (81, .ireturn, 1), (82, .iconst 0, 1), (83, .istore 7, 2), (85, .iload 6, 2), (87, .iload_n 3, 1), (88, .if_icmp .eq 52, 3), (91, .aload_n 0, 1), (92, .iload 6, 2), (94, .invokevirtual 578, 3)], [(97, .istore 8, 2), (99, .iload 7, 2), (101, .iload 4, 2), (103, .if_icmp .ne 27, 3), (106, .iload 5, 2), (108, .ifCond .eq 19, 3), (111, .aload_n 0, 1)], [(112, .getfield 213, 3), (115, .bipush 8, 2), (117, .iload 6, 2), (119, .imul, 1), (120, .iload 8, 2), (122, .iadd, 1), (123, .iaload, 1), (124, .goto 5, 3), (127, .iload 8, 2)], [(129, .ireturn, 1), (130, .iload 8, 2), (132, .istore 6, 2), (134, .iinc 7 1, 3), (137, .goto (-52), 3), (140, .iconst (-1), 1), (141, .ireturn, 1)]]
def kp_272 : List (Nat × Nat × Nat × Int) := [(162, 1, 12, 49), (165, 1, 12, 50), (213, 1, 12, 66), (216, 1, 12, 67), (508, 2, 220, 1), (514, 2, 221, 1), (571, 7, 0, 100000000), (572, 2, 269, 2), (575, 2, 270, 1), (578, 2, 271, 1)]
def kr_272 : xR := (kc_272, kp_272, (9, 1, 0, 0, 12), yX12_routing, cX12_routing, (some .int))
abbrev cX12_route : ByteArray := prog_14_method_103_code
def yX12_route : MethodName := ⟨RX12, "route", "(IIII)I"⟩
def kc_273 : List (List (Nat × Instr × Nat)) := [[(0, .aload_n 0, 1), (1, .iload_n 1, 1), (2, .invokevirtual 514, 3), (5, .ifCond .eq 16, 3), (8, .aload_n 0, 1), (9, .iload_n 1, 1), (10, .iload_n 2, 1), (11, .iload_n 3, 1), (12, .iload 4, 2), (14, .iconst 0, 1), (15, .invokevirtual 581, 3)], [(18, .goto 4, 3), (21, .iconst (-1), 1), (22, .ireturn, 1)]]
def kp_273 : List (Nat × Nat × Nat × Int) := [(514, 2, 221, 1), (581, 2, 272, 5)]
def kr_273 : xR := (kc_273, kp_273, (5, 1, 0, 0, 12), yX12_route, cX12_route, (some .int))
abbrev cX12_bearer : ByteArray := prog_14_method_104_code
def yX12_bearer : MethodName := ⟨RX12, "bearer", "(III)I"⟩
def kc_274 : List (List (Nat × Instr × Nat)) := [[(0, .aload_n 0, 1), (1, .iconst (-1), 1), (2, .iload_n 1, 1), (3, .iload_n 2, 1), (4, .iload_n 3, 1), (5, .iconst 1, 1), (6, .invokevirtual 581, 3), (9, .ireturn, 1)]]
def kp_274 : List (Nat × Nat × Nat × Int) := [(581, 2, 272, 5)]
def kr_274 : xR := (kc_274, kp_274, (4, 1, 0, 0, 12), yX12_bearer, cX12_bearer, (some .int))
abbrev cX12_isErrand : ByteArray := prog_14_method_106_code
def yX12_isErrand : MethodName := ⟨RX12, "isErrand", "(II)Z"⟩
def kc_276 : List (List (Nat × Instr × Nat)) := [[(0, .aload_n 0, 1), (1, .iload_n 1, 1), (2, .invokevirtual 514, 3), (5, .ifCond .eq 19, 3), (8, .iload_n 2, 1), (9, .ifCond .eq 15, 3), (12, .iload_n 2, 1), (13, .iconst 2, 1), (14, .irem, 1), (15, .ifCond .gt 9, 3)], [(18, .iload_n 2, 1), (19, .bipush 24, 2), (21, .if_icmp .le 5, 3), (24, .iconst 0, 1), (25, .ireturn, 1), (26, .aload_n 0, 1), (27, .getfield 159, 3), (30, .iload_n 1, 1), (31, .iaload, 1)], [(32, .istore_n 3, 1), (33, .iconst 0, 1), (34, .istore 4, 2), (36, .iload 4, 2), (38, .iload_n 2, 1), (39, .if_icmp .ge 61, 3), (42, .aload_n 0, 1), (43, .aload_n 0, 1), (44, .getfield 7, 3), (47, .iload 4, 2)], [(49, .iaload, 1), (50, .invokevirtual 508, 3), (53, .ifCond .eq 31, 3), (56, .aload_n 0, 1), (57, .getfield 7, 3), (60, .iload 4, 2), (62, .iconst 1, 1), (63, .iadd, 1)], [(64, .iaload, 1), (65, .iconst 1, 1), (66, .if_icmp .gt 18, 3), (69, .aload_n 0, 1), (70, .iload_n 3, 1), (71, .aload_n 0, 1), (72, .getfield 7, 3), (75, .iload 4, 2), (77, .iaload, 1), (78, .invokevirtual 511, 3)], [(81, .ifCond .ne 5, 3), (84, .iconst 0, 1), (85, .ireturn, 1), (86, .aload_n 0, 1), (87, .getfield 7, 3), (90, .iload 4, 2), (92, .iaload, 1), (93, .istore_n 3, 1), (94, .iinc 4 2, 3)], [(97, .goto (-61), 3), (100, .iconst 1, 1), (101, .ireturn, 1)]]
def kp_276 : List (Nat × Nat × Nat × Int) := [(7, 1, 12, 0), (159, 1, 12, 48), (508, 2, 220, 1), (511, 2, 245, 2), (514, 2, 221, 1)]
def kr_276 : xR := (kc_276, kp_276, (5, 2, 0, 0, 12), yX12_isErrand, cX12_isErrand, (some .boolean))
abbrev cX12_errand : ByteArray := prog_14_method_107_code
def yX12_errand : MethodName := ⟨RX12, "errand", "(I)I"⟩
def kc_277 : List (List (Nat × Instr × Nat)) := [[(0, .aload_n 0, 1), (1, .getfield 13, 3), (4, .istore_n 2, 1), (5, .aload_n 0, 1), (6, .iconst 0, 1), (7, .putfield 13, 3), (10, .aload_n 0, 1), (11, .iload_n 1, 1), (12, .iload_n 2, 1), (13, .invokevirtual 588, 3)], [(16, .ifCond .ne 9, 3), (19, .aload_n 0, 1), (20, .iconst 5, 1), (21, .invokevirtual 255, 3), (24, .ireturn, 1), (25, .iload_n 2, 1), (26, .iconst 2, 1), (27, .idiv, 1), (28, .istore_n 3, 1), (29, .iconst (-1), 1), (30, .istore 4, 2)], [(32, .ldc_w 571, 3), (35, .istore 5, 2), (37, .iconst 0, 1), (38, .istore 6, 2), (40, .iload 6, 2), (42, .iconst 1, 1), (43, .iload_n 3, 1), (44, .ishl, 1), (45, .if_icmp .ge 43, 3)], [(48, .aload_n 0, 1), (49, .iload_n 1, 1), (50, .iload_n 3, 1), (51, .iload 6, 2), (53, .invokevirtual 591, 3), (56, .istore 7, 2), (58, .iload 7, 2), (60, .iconst (-1), 1), (61, .if_icmp .eq 21, 3)], [(64, .iload 7, 2), (66, .iload 5, 2), (68, .if_icmp .lt 6, 3), (71, .goto 11, 3), (74, .iload 7, 2), (76, .istore 5, 2), (78, .iload 6, 2)], [(80, .istore 4, 2), (82, .iinc 6 1, 3), (85, .goto (-45), 3), (88, .aload_n 0, 1), (89, .iload 4, 2), (91, .iconst (-1), 1), (92, .if_icmp .ne 7, 3), (95, .iconst 0, 1)], [(96, .goto 4, 3), (99, .iload_n 3, 1), (100, .putfield 219, 3), (103, .iconst 0, 1), (104, .istore 6, 2), (106, .iload 6, 2), (108, .aload_n 0, 1), (109, .getfield 219, 3)], [(112, .if_icmp .ge 35, 3), (115, .aload_n 0, 1), (116, .getfield 222, 3), (119, .iload 6, 2), (121, .iload 4, 2), (123, .iload_n 3, 1), (124, .iconst 1, 1), (125, .isub, 1), (126, .iload 6, 2)], [(128, .isub, 1), (129, .invokestatic 585, 3), (132, .ifCond .eq 7, 3), (135, .iconst 1, 1), (136, .goto 4, 3), (139, .iconst 0, 1), (140, .iastore, 1), (141, .iinc 6 1, 3)], [(144, .goto (-38), 3), (147, .iload 4, 2), (149, .iconst (-1), 1), (150, .if_icmp .ne 7, 3), (153, .iconst (-1), 1), (154, .goto 5, 3), (157, .iload 5, 2), (159, .ireturn, 1)]]
def kp_277 : List (Nat × Nat × Nat × Int) := [(13, 1, 12, 1), (219, 1, 12, 68), (222, 1, 12, 69), (255, 2, 218, 1), (571, 7, 0, 100000000), (585, 6, 222, 2), (588, 2, 276, 2), (591, 2, 275, 3)]
def kr_277 : xR := (kc_277, kp_277, (8, 1, 0, 0, 12), yX12_errand, cX12_errand, (some .int))
abbrev cX12_along : ByteArray := prog_14_method_108_code
def yX12_along : MethodName := ⟨RX12, "along", "(I)I"⟩
def kc_278 : List (List (Nat × Instr × Nat)) := [[(0, .iload_n 1, 1), (1, .iconst 0, 1), (2, .aload_n 0, 1), (3, .getfield 219, 3), (6, .iconst 1, 1), (7, .isub, 1), (8, .invokestatic 345, 3), (11, .ifCond .eq 12, 3), (14, .aload_n 0, 1), (15, .getfield 222, 3)], [(18, .iload_n 1, 1), (19, .iaload, 1), (20, .goto 4, 3), (23, .iconst (-1), 1), (24, .ireturn, 1)]]
def kp_278 : List (Nat × Nat × Nat × Int) := [(219, 1, 12, 68), (222, 1, 12, 69), (345, 6, 172, 3)]
def kr_278 : xR := (kc_278, kp_278, (2, 1, 0, 0, 12), yX12_along, cX12_along, (some .int))
abbrev cX12_seated : ByteArray := prog_14_method_110_code
def yX12_seated : MethodName := ⟨RX12, "seated", "(II)I"⟩
def kc_280 : List (List (Nat × Instr × Nat)) := [[(0, .aload_n 0, 1), (1, .iload_n 1, 1), (2, .invokevirtual 508, 3), (5, .ifCond .eq 24, 3), (8, .iload_n 2, 1), (9, .iconst 0, 1), (10, .iconst 1, 1), (11, .aload_n 0, 1), (12, .getfield 69, 3), (15, .aload_n 0, 1)], [(16, .getfield 54, 3), (19, .iaload, 1), (20, .ishl, 1), (21, .iconst 1, 1), (22, .isub, 1), (23, .invokestatic 345, 3), (26, .ifCond .ne 5, 3), (29, .iconst (-1), 1), (30, .ireturn, 1), (31, .iconst 0, 1)], [(32, .istore_n 3, 1), (33, .iconst 1, 1), (34, .istore 4, 2), (36, .iload 4, 2), (38, .iconst 1, 1), (39, .aload_n 0, 1), (40, .getfield 69, 3), (43, .aload_n 0, 1), (44, .getfield 54, 3), (47, .iaload, 1)], [(48, .ishl, 1), (49, .if_icmp .ge 43, 3), (52, .iload 4, 2), (54, .iload_n 2, 1), (55, .iconst (-1), 1), (56, .ixor, 1), (57, .iand, 1), (58, .ifCond .ne 28, 3), (61, .iload 4, 2), (63, .invokestatic 594, 3)], [(66, .iload_n 3, 1), (67, .invokestatic 594, 3), (70, .if_icmp .le 16, 3), (73, .aload_n 0, 1), (74, .iload_n 1, 1), (75, .iload 4, 2), (77, .invokevirtual 597, 3)], [(80, .ifCond .eq 6, 3), (83, .iload 4, 2), (85, .istore_n 3, 1), (86, .iinc 4 1, 3), (89, .goto (-53), 3), (92, .iload_n 3, 1), (93, .ireturn, 1)]]
def kp_280 : List (Nat × Nat × Nat × Int) := [(54, 1, 12, 14), (69, 1, 12, 19), (345, 6, 172, 3), (508, 2, 220, 1), (594, 6, 223, 1), (597, 2, 279, 2)]
def kr_280 : xR := (kc_280, kp_280, (5, 1, 0, 0, 12), yX12_seated, cX12_seated, (some .int))
abbrev cX12_isStanding : ByteArray := prog_14_method_113_code
def yX12_isStanding : MethodName := ⟨RX12, "isStanding", "(I)Z"⟩
def kc_283 : List (List (Nat × Instr × Nat)) := [[(0, .iload_n 1, 1), (1, .ifCond .eq 15, 3), (4, .iload_n 1, 1), (5, .iconst 2, 1), (6, .irem, 1), (7, .ifCond .gt 9, 3), (10, .iload_n 1, 1), (11, .bipush 16, 2), (13, .if_icmp .le 5, 3)], [(16, .iconst 0, 1), (17, .ireturn, 1), (18, .iconst 0, 1), (19, .istore_n 2, 1), (20, .iload_n 2, 1), (21, .iload_n 1, 1), (22, .if_icmp .ge 54, 3), (25, .aload_n 0, 1), (26, .aload_n 0, 1), (27, .getfield 7, 3), (30, .iload_n 2, 1), (31, .iaload, 1)], [(32, .invokevirtual 508, 3), (35, .ifCond .ne 5, 3), (38, .iconst 0, 1), (39, .ireturn, 1), (40, .iconst 0, 1), (41, .istore_n 3, 1), (42, .iload_n 3, 1), (43, .iload_n 2, 1), (44, .if_icmp .ge 26, 3), (47, .aload_n 0, 1)], [(48, .getfield 7, 3), (51, .iload_n 3, 1), (52, .iaload, 1), (53, .aload_n 0, 1), (54, .getfield 7, 3), (57, .iload_n 2, 1), (58, .iaload, 1), (59, .if_icmp .ne 5, 3), (62, .iconst 0, 1), (63, .ireturn, 1)], [(64, .iinc 3 2, 3), (67, .goto (-25), 3), (70, .iinc 2 2, 3), (73, .goto (-53), 3), (76, .iconst 1, 1), (77, .ireturn, 1)]]
def kp_283 : List (Nat × Nat × Nat × Int) := [(7, 1, 12, 0), (508, 2, 220, 1)]
def kr_283 : xR := (kc_283, kp_283, (4, 2, 0, 0, 12), yX12_isStanding, cX12_isStanding, (some .boolean))
abbrev cX12_standing : ByteArray := prog_14_method_114_code
def yX12_standing : MethodName := ⟨RX12, "standing", "()I"⟩
def kc_284 : List (List (Nat × Instr × Nat)) := [[(0, .aload_n 0, 1), (1, .getfield 13, 3), (4, .istore_n 1, 1), (5, .aload_n 0, 1), (6, .iconst 0, 1), (7, .putfield 13, 3), (10, .aload_n 0, 1), (11, .iload_n 1, 1), (12, .invokevirtual 603, 3), (15, .ifCond .ne 9, 3)], [(18, .aload_n 0, 1), (19, .iconst 5, 1), (20, .invokevirtual 255, 3), (23, .ireturn, 1), (24, .aload_n 0, 1), (25, .iload_n 1, 1), (26, .iconst 2, 1), (27, .idiv, 1), (28, .putfield 231, 3), (31, .iconst 0, 1)], [(32, .istore_n 2, 1), (33, .iload_n 2, 1), (34, .aload_n 0, 1), (35, .getfield 231, 3), (38, .if_icmp .ge 39, 3), (41, .aload_n 0, 1), (42, .getfield 234, 3), (45, .iload_n 2, 1), (46, .aload_n 0, 1), (47, .getfield 7, 3)], [(50, .iconst 2, 1), (51, .iload_n 2, 1), (52, .imul, 1), (53, .iaload, 1), (54, .iastore, 1), (55, .aload_n 0, 1), (56, .getfield 237, 3), (59, .iload_n 2, 1), (60, .aload_n 0, 1), (61, .getfield 7, 3)], [(64, .iconst 2, 1), (65, .iload_n 2, 1), (66, .imul, 1), (67, .iconst 1, 1), (68, .iadd, 1), (69, .iaload, 1), (70, .iastore, 1), (71, .iinc 2 1, 3), (74, .goto (-41), 3), (77, .aload_n 0, 1), (78, .iconst 1, 1), (79, .putfield 225, 3)], [(82, .iconst 0, 1), (83, .istore_n 2, 1), (84, .iload_n 2, 1), (85, .aload_n 0, 1), (86, .getfield 69, 3), (89, .aload_n 0, 1), (90, .getfield 54, 3), (93, .iaload, 1), (94, .if_icmp .ge 47, 3)], [(97, .iconst 0, 1), (98, .istore_n 3, 1), (99, .iload_n 3, 1), (100, .aload_n 0, 1), (101, .getfield 57, 3), (104, .aload_n 0, 1), (105, .getfield 54, 3), (108, .iaload, 1), (109, .if_icmp .ge 26, 3)], [(112, .aload_n 0, 1), (113, .getfield 228, 3), (116, .bipush 8, 2), (118, .iload_n 2, 1), (119, .imul, 1), (120, .iload_n 3, 1), (121, .iadd, 1), (122, .aload_n 0, 1), (123, .iload_n 2, 1), (124, .iload_n 3, 1), (125, .invokevirtual 606, 3)], [(128, .iastore, 1), (129, .iinc 3 1, 3), (132, .goto (-33), 3), (135, .iinc 2 1, 3), (138, .goto (-54), 3), (141, .aload_n 0, 1), (142, .iconst (-1), 1), (143, .iconst (-1), 1)], [(144, .invokevirtual 606, 3), (147, .ireturn, 1)]]
def kp_284 : List (Nat × Nat × Nat × Int) := [(7, 1, 12, 0), (13, 1, 12, 1), (54, 1, 12, 14), (57, 1, 12, 15), (69, 1, 12, 19), (225, 1, 12, 70), (228, 1, 12, 71), (231, 1, 12, 72), (234, 1, 12, 73), (237, 1, 12, 74), (255, 2, 218, 1), (603, 2, 283, 1), (606, 2, 282, 2)]
def kr_284 : xR := (kc_284, kp_284, (4, 1, 0, 0, 12), yX12_standing, cX12_standing, (some .int))
abbrev cX12_where : ByteArray := prog_14_method_115_code
def yX12_where : MethodName := ⟨RX12, "where", "(II)I"⟩
def kc_285 : List (List (Nat × Instr × Nat)) := [[(0, .aload_n 0, 1), (1, .getfield 225, 3), (4, .ifCond .eq 33, 3), (7, .aload_n 0, 1), (8, .iload_n 1, 1), (9, .invokevirtual 514, 3), (12, .ifCond .eq 25, 3), (15, .aload_n 0, 1)], [(16, .iload_n 2, 1), (17, .invokevirtual 508, 3), (20, .ifCond .eq 17, 3), (23, .aload_n 0, 1), (24, .getfield 228, 3), (27, .bipush 8, 2), (29, .iload_n 1, 1), (30, .imul, 1), (31, .iload_n 2, 1)], [(32, .iadd, 1), (33, .iaload, 1), (34, .goto 4, 3), (37, .iconst (-1), 1), (38, .ireturn, 1)]]
def kp_285 : List (Nat × Nat × Nat × Int) := [(225, 1, 12, 70), (228, 1, 12, 71), (508, 2, 220, 1), (514, 2, 221, 1)]
def kr_285 : xR := (kc_285, kp_285, (3, 1, 0, 0, 12), yX12_where, cX12_where, (some .int))
abbrev cX12_writes : ByteArray := prog_14_method_116_code
def yX12_writes : MethodName := ⟨RX12, "writes", "(I)V"⟩
def kc_286 : List (List (Nat × Instr × Nat)) := [[(0, .aload_n 0, 1), (1, .getfield 249, 3), (4, .aload_n 0, 1), (5, .getfield 252, 3), (8, .iload_n 1, 1), (9, .sipush 255, 3), (12, .iand, 1), (13, .iastore, 1), (14, .aload_n 0, 1), (15, .dup, 1)], [(16, .getfield 252, 3), (19, .iconst 1, 1), (20, .iadd, 1), (21, .putfield 252, 3), (24, .return_, 1)]]
def kp_286 : List (Nat × Nat × Nat × Int) := [(249, 1, 12, 78), (252, 1, 12, 79)]
def kr_286 : xR := (kc_286, kp_286, (2, 0, 0, 0, 12), yX12_writes, cX12_writes, none)
abbrev cX12_image : ByteArray := prog_14_method_118_code
def yX12_image : MethodName := ⟨RX12, "image", "()I"⟩
def kc_288 : List (List (Nat × Instr × Nat)) := [[(0, .aload_n 0, 1), (1, .iconst 0, 1), (2, .putfield 252, 3), (5, .iconst 0, 1), (6, .istore_n 1, 1), (7, .iload_n 1, 1), (8, .aload_n 0, 1), (9, .getfield 69, 3), (12, .aload_n 0, 1), (13, .getfield 54, 3)], [(16, .iaload, 1), (17, .if_icmp .ge 59, 3), (20, .aload_n 0, 1), (21, .aload_n 0, 1), (22, .getfield 159, 3), (25, .iload_n 1, 1), (26, .iaload, 1), (27, .invokevirtual 609, 3), (30, .aload_n 0, 1), (31, .aload_n 0, 1)], [(32, .getfield 162, 3), (35, .iload_n 1, 1), (36, .iaload, 1), (37, .invokevirtual 609, 3), (40, .aload_n 0, 1), (41, .aload_n 0, 1), (42, .getfield 165, 3), (45, .iload_n 1, 1), (46, .iaload, 1), (47, .invokevirtual 609, 3)], [(50, .aload_n 0, 1), (51, .aload_n 0, 1), (52, .getfield 168, 3), (55, .iload_n 1, 1), (56, .iaload, 1), (57, .invokevirtual 612, 3), (60, .aload_n 0, 1), (61, .aload_n 0, 1), (62, .getfield 171, 3)], [(65, .iload_n 1, 1), (66, .iaload, 1), (67, .invokevirtual 612, 3), (70, .iinc 1 1, 3), (73, .goto (-66), 3), (76, .bipush 113, 2), (78, .istore_n 1, 1), (79, .iconst 0, 1)], [(80, .istore_n 2, 1), (81, .iload_n 2, 1), (82, .aload_n 0, 1), (83, .getfield 252, 3), (86, .if_icmp .ge 24, 3), (89, .iconst 5, 1), (90, .iload_n 1, 1), (91, .imul, 1), (92, .aload_n 0, 1), (93, .getfield 249, 3)], [(96, .iload_n 2, 1), (97, .iaload, 1), (98, .iadd, 1), (99, .sipush 251, 3), (102, .irem, 1), (103, .istore_n 1, 1), (104, .iinc 2 1, 3), (107, .goto (-26), 3), (110, .aload_n 0, 1), (111, .iload_n 1, 1)], [(112, .invokevirtual 609, 3), (115, .aload_n 0, 1), (116, .getfield 252, 3), (119, .ireturn, 1)]]
def kp_288 : List (Nat × Nat × Nat × Int) := [(54, 1, 12, 14), (69, 1, 12, 19), (159, 1, 12, 48), (162, 1, 12, 49), (165, 1, 12, 50), (168, 1, 12, 51), (171, 1, 12, 52), (249, 1, 12, 78), (252, 1, 12, 79), (609, 2, 286, 1), (612, 2, 287, 1)]
def kr_288 : xR := (kc_288, kp_288, (3, 1, 0, 0, 12), yX12_image, cX12_image, (some .int))
abbrev cX12_octet : ByteArray := prog_14_method_119_code
def yX12_octet : MethodName := ⟨RX12, "octet", "(I)I"⟩
def kc_289 : List (List (Nat × Instr × Nat)) := [[(0, .iload_n 1, 1), (1, .iconst 0, 1), (2, .aload_n 0, 1), (3, .getfield 252, 3), (6, .iconst 1, 1), (7, .isub, 1), (8, .invokestatic 345, 3), (11, .ifCond .eq 12, 3), (14, .aload_n 0, 1), (15, .getfield 249, 3)], [(18, .iload_n 1, 1), (19, .iaload, 1), (20, .goto 4, 3), (23, .iconst (-1), 1), (24, .ireturn, 1)]]
def kp_289 : List (Nat × Nat × Nat × Int) := [(249, 1, 12, 78), (252, 1, 12, 79), (345, 6, 172, 3)]
def kr_289 : xR := (kc_289, kp_289, (2, 1, 0, 0, 12), yX12_octet, cX12_octet, (some .int))
abbrev cX12_comesOn : ByteArray := prog_14_method_122_code
def yX12_comesOn : MethodName := ⟨RX12, "comesOn", "(I)Z"⟩
def kc_292 : List (List (Nat × Instr × Nat)) := [[(0, .iload_n 1, 1), (1, .iconst 1, 1), (2, .bipush 9, 2), (4, .aload_n 0, 1), (5, .getfield 69, 3), (8, .aload_n 0, 1), (9, .getfield 54, 3), (12, .iaload, 1), (13, .imul, 1), (14, .iadd, 1), (15, .if_icmp .eq 5, 3)], [(18, .iconst 0, 1), (19, .ireturn, 1), (20, .bipush 113, 2), (22, .istore_n 2, 1), (23, .iconst 0, 1), (24, .istore_n 3, 1), (25, .iload_n 3, 1), (26, .iload_n 1, 1), (27, .iconst 1, 1), (28, .isub, 1), (29, .if_icmp .ge 24, 3)], [(32, .iconst 5, 1), (33, .iload_n 2, 1), (34, .imul, 1), (35, .aload_n 0, 1), (36, .getfield 7, 3), (39, .iload_n 3, 1), (40, .iaload, 1), (41, .iadd, 1), (42, .sipush 251, 3), (45, .irem, 1), (46, .istore_n 2, 1), (47, .iinc 3 1, 3)], [(50, .goto (-25), 3), (53, .aload_n 0, 1), (54, .getfield 7, 3), (57, .iload_n 1, 1), (58, .iconst 1, 1), (59, .isub, 1), (60, .iaload, 1), (61, .iload_n 2, 1), (62, .if_icmp .eq 5, 3)], [(65, .iconst 0, 1), (66, .ireturn, 1), (67, .aload_n 0, 1), (68, .iconst 1, 1), (69, .iconst 0, 1), (70, .invokevirtual 452, 3), (73, .aload_n 0, 1), (74, .getfield 174, 3), (77, .iconst 1, 1), (78, .iconst 0, 1), (79, .iastore, 1)], [(80, .iconst 0, 1), (81, .istore_n 3, 1), (82, .iload_n 3, 1), (83, .aload_n 0, 1), (84, .getfield 69, 3), (87, .aload_n 0, 1), (88, .getfield 54, 3), (91, .iaload, 1), (92, .if_icmp .ge 23, 3), (95, .aload_n 0, 1)], [(96, .iload_n 3, 1), (97, .bipush 9, 2), (99, .iload_n 3, 1), (100, .imul, 1), (101, .invokevirtual 618, 3), (104, .ifCond .ne 5, 3), (107, .iconst 0, 1), (108, .ireturn, 1), (109, .iinc 3 1, 3)], [(112, .goto (-30), 3), (115, .iconst 0, 1), (116, .istore_n 3, 1), (117, .iload_n 3, 1), (118, .aload_n 0, 1), (119, .getfield 57, 3), (122, .aload_n 0, 1), (123, .getfield 54, 3), (126, .iaload, 1), (127, .if_icmp .ge 85, 3)], [(130, .iconst 0, 1), (131, .istore 4, 2), (133, .iconst 0, 1), (134, .istore 5, 2), (136, .iload 5, 2), (138, .aload_n 0, 1), (139, .getfield 69, 3), (142, .aload_n 0, 1), (143, .getfield 54, 3)], [(146, .iaload, 1), (147, .if_icmp .ge 38, 3), (150, .iload 4, 2), (152, .aload_n 0, 1), (153, .getfield 162, 3), (156, .bipush 8, 2), (158, .iload 5, 2)], [(160, .iadd, 1), (161, .iaload, 1), (162, .iload_n 3, 1), (163, .if_icmp .ne 12, 3), (166, .aload_n 0, 1), (167, .iload 5, 2), (169, .invokevirtual 484, 3), (172, .goto 4, 3), (175, .iconst 0, 1)], [(176, .iadd, 1), (177, .istore 4, 2), (179, .iinc 5 1, 3), (182, .goto (-46), 3), (185, .iload 4, 2), (187, .aload_n 0, 1), (188, .getfield 63, 3), (191, .bipush 8, 2)], [(193, .aload_n 0, 1), (194, .getfield 54, 3), (197, .imul, 1), (198, .iload_n 3, 1), (199, .iadd, 1), (200, .iaload, 1), (201, .if_icmp .le 5, 3), (204, .iconst 0, 1), (205, .ireturn, 1), (206, .iinc 3 1, 3)], [(209, .goto (-92), 3), (212, .iconst 1, 1), (213, .ireturn, 1)]]
def kp_292 : List (Nat × Nat × Nat × Int) := [(7, 1, 12, 0), (54, 1, 12, 14), (57, 1, 12, 15), (63, 1, 12, 17), (69, 1, 12, 19), (162, 1, 12, 49), (174, 1, 12, 53), (452, 2, 224, 2), (484, 2, 237, 1), (618, 2, 291, 2)]
def kr_292 : xR := (kc_292, kp_292, (6, 2, 0, 0, 12), yX12_comesOn, cX12_comesOn, (some .boolean))
abbrev cX12_on : ByteArray := prog_14_method_123_code
def yX12_on : MethodName := ⟨RX12, "on", "()Z"⟩
def kc_293 : List (List (Nat × Instr × Nat)) := [[(0, .aload_n 0, 1), (1, .getfield 13, 3), (4, .istore_n 1, 1), (5, .aload_n 0, 1), (6, .iconst 0, 1), (7, .putfield 13, 3), (10, .aload_n 0, 1), (11, .iload_n 1, 1), (12, .invokevirtual 621, 3), (15, .ifCond .ne 17, 3)], [(18, .aload_n 0, 1), (19, .iconst 5, 1), (20, .invokevirtual 255, 3), (23, .ifCond .lt 7, 3), (26, .iconst 1, 1), (27, .goto 4, 3), (30, .iconst 0, 1), (31, .ireturn, 1)], [(32, .aload_n 0, 1), (33, .iconst 0, 1), (34, .iconst 1, 1), (35, .invokevirtual 452, 3), (38, .aload_n 0, 1), (39, .iconst 0, 1), (40, .putfield 192, 3), (43, .iconst 1, 1), (44, .ireturn, 1)]]
def kp_293 : List (Nat × Nat × Nat × Int) := [(13, 1, 12, 1), (192, 1, 12, 59), (255, 2, 218, 1), (452, 2, 224, 2), (621, 2, 292, 1)]
def kr_293 : xR := (kc_293, kp_293, (2, 2, 0, 0, 12), yX12_on, cX12_on, (some .boolean))
abbrev cJ9_min_7cf53 : ByteArray := prog_17_method_69_code
def yJ9_min_7cf53 : MethodName := ⟨RJ9, "min", "(II)I"⟩
def kc_299 : List (List (Nat × Instr × Nat)) := [[(0, .iload_n 0, 1), (1, .iload_n 1, 1), (2, .if_icmp .gt 7, 3), (5, .iload_n 0, 1), (6, .goto 4, 3), (9, .iload_n 1, 1), (10, .ireturn, 1)]]
def kp_299 : List (Nat × Nat × Nat × Int) := []
def kr_299 : xR := (kc_299, kp_299, (2, 1, 0, 0, 999), yJ9_min_7cf53, cJ9_min_7cf53, (some .int))
abbrev cJ7_fill_53178 : ByteArray := prog_19_method_103_code
def yJ7_fill_53178 : MethodName := ⟨RJ7, "fill", "([II)V"⟩
def kc_301 : List (List (Nat × Instr × Nat)) := [[(0, .iconst 0, 1), (1, .istore_n 2, 1), (2, .aload_n 0, 1), (3, .arraylength, 1), (4, .istore_n 3, 1), (5, .iload_n 2, 1), (6, .iload_n 3, 1), (7, .if_icmp .ge 13, 3), (10, .aload_n 0, 1), (11, .iload_n 2, 1), (12, .iload_n 1, 1), (13, .iastore, 1), (14, .iinc 2 1, 3)], [(17, .goto (-12), 3), (20, .return_, 1)]]
def kp_301 : List (Nat × Nat × Nat × Int) := []
def kr_301 : xR := (kc_301, kp_301, (4, 0, 0, 0, 999), yJ7_fill_53178, cJ7_fill_53178, none)
def kt_0 : List xR := [kr_0, kr_1, kr_2, k_none, k_none, k_none, k_none, k_none, k_none, kr_9, k_none, k_none, k_none, k_none, k_none, kr_15]
def kt_1 : List xR := [kr_16, k_none, kr_18, kr_19, k_none, k_none, k_none, k_none, k_none, kr_25, k_none, k_none, k_none, k_none, k_none, k_none]
def kt_2 : List xR := [kr_32, k_none, k_none, k_none, k_none, k_none, k_none, k_none, k_none, kr_41, kr_42, k_none, k_none, k_none, k_none, k_none]
def kt_3 : List xR := [kr_48, kr_49, kr_50, kr_51, kr_52, k_none, k_none, k_none, k_none, k_none, k_none, k_none, k_none, kr_61, k_none, k_none]
def kt_4 : List xR := [k_none, k_none, k_none, kr_67, k_none, k_none, kr_70, k_none, kr_72, k_none, kr_74, k_none, k_none, k_none, kr_78, k_none]
def kt_5 : List xR := [k_none, kr_81, k_none, k_none, k_none, k_none, k_none, k_none, kr_88, k_none, k_none, k_none, k_none, k_none, k_none, k_none]
def kt_6 : List xR := [k_none, k_none, k_none, k_none, k_none, k_none, kr_102, kr_103, kr_104, kr_105, kr_106, kr_107, k_none, k_none, k_none, k_none]
def kt_7 : List xR := [k_none, k_none, k_none, k_none, k_none, kr_117, k_none, k_none, kr_120, kr_121, k_none, k_none, k_none, k_none, k_none, k_none]
def kt_8 : List xR := [k_none, k_none, k_none, k_none, k_none, k_none, k_none, kr_135, kr_136, kr_137, kr_138, kr_139, kr_140, kr_141, kr_142, kr_143]
def kt_9 : List xR := [kr_144, kr_145, kr_146, kr_147, kr_148, kr_149, kr_150, kr_151, kr_152, kr_153, kr_154, kr_155, kr_156, kr_157, kr_158, kr_159]
def kt_10 : List xR := [kr_160, kr_161, kr_162, kr_163, kr_164, kr_165, k_none, kr_167, k_none, k_none, k_none, kr_171, kr_172, kr_173, kr_174, kr_175]
def kt_11 : List xR := [k_none, k_none, k_none, k_none, kr_180, k_none, k_none, k_none, k_none, kr_185, k_none, k_none, k_none, k_none, k_none, k_none]
def kt_12 : List xR := [k_none, k_none, k_none, k_none, k_none, k_none, k_none, k_none, k_none, k_none, k_none, k_none, k_none, k_none, k_none, k_none]
def kt_13 : List xR := [k_none, k_none, k_none, k_none, k_none, k_none, k_none, k_none, kr_216, kr_217, kr_218, kr_219, kr_220, kr_221, k_none, k_none]
def kt_14 : List xR := [kr_224, kr_225, kr_226, kr_227, kr_228, k_none, k_none, k_none, k_none, k_none, k_none, k_none, k_none, k_none, k_none, k_none]
def kt_15 : List xR := [k_none, k_none, k_none, k_none, k_none, k_none, kr_246, kr_247, kr_248, kr_249, kr_250, kr_251, k_none, kr_253, k_none, kr_255]
def kt_16 : List xR := [k_none, k_none, k_none, k_none, kr_260, k_none, kr_262, kr_263, k_none, k_none, kr_266, kr_267, kr_268, k_none, k_none, k_none]
def kt_17 : List xR := [kr_272, kr_273, kr_274, k_none, kr_276, kr_277, kr_278, k_none, kr_280, k_none, k_none, kr_283, kr_284, kr_285, kr_286, k_none]
def kt_18 : List xR := [kr_288, kr_289, k_none, k_none, kr_292, kr_293, k_none, k_none, k_none, k_none, k_none, kr_299, k_none, kr_301, k_none]
def kT : List (List xR) := [kt_0, kt_1, kt_2, kt_3, kt_4, kt_5, kt_6, kt_7, kt_8, kt_9, kt_10, kt_11, kt_12, kt_13, kt_14, kt_15, kt_16, kt_17, kt_18]
def k_get (m : Nat) : xR := (kT.getD (m / 16) []).getD (m % 16) k_none
def k_P : xP := (fun m pc => k_find ((k_get m).1.getD (pc / 16) []) pc, fun m idx => (k_find (k_get m).2.1 idx).getD (0, 0, 0), fun m => (k_get m).2.2.1, fun ci => k_cls.getD ci [], fun m => (k_get m).2.2.2.1, fun m => (k_get m).2.2.2.2.1, fun m => (k_get m).2.2.2.2.2)
def k_E : xE := [(-2147483648, 2147483647), (-2147483648, 2147483647), (-2147483648, 2147483647), (-2147483648, 2147483647), (-2147483648, 2147483647), (-2147483648, 2147483647), (0, 6)]
def k_S : xS := ([(0, 0, [(0, (4, none, 0))], [], 0, 0)], [], k_E)
end
section
def x_eqI : Int → Int → Bool
  | .ofNat a, .ofNat b => Nat.beq a b
  | .negSucc a, .negSucc b => Nat.beq a b
  | _, _ => false
def x_eqO : Option Nat → Option Nat → Bool
  | none, none => true
  | some a, some b => Nat.beq a b
  | _, _ => false
def x_eqL {α : Type} (f : α → α → Bool) : List α → List α → Bool
  | [], [] => true
  | a :: l, b :: k => cond (f a b) (x_eqL f l k) false
  | _, _ => false
def x_eqV (a b : xV) : Bool := Nat.beq a.1 b.1 && (x_eqO a.2.1 b.2.1 && x_eqI a.2.2 b.2.2)
def x_eqN (a b : Nat × xV) : Bool := Nat.beq a.1 b.1 && x_eqV a.2 b.2
def x_eqC : xC → xC → Bool
  | .inl a, .inl b => Nat.beq a.1 b.1 && (Nat.beq a.2.1 b.2.1 && (x_eqI a.2.2.1 b.2.2.1 && (x_eqI a.2.2.2.1 b.2.2.2.1 && x_eqL x_eqN a.2.2.2.2 b.2.2.2.2)))
  | .inr a, .inr b => Nat.beq a.1 b.1 && x_eqL x_eqV a.2 b.2
  | _, _ => false
def x_eqE (a b : Int × Int) : Bool := x_eqI a.1 b.1 && x_eqI a.2 b.2
def x_eqF (a b : xF) : Bool := Nat.beq a.1 b.1 && (Nat.beq a.2.1 b.2.1 && (x_eqL x_eqN a.2.2.1 b.2.2.1 && (x_eqL x_eqV a.2.2.2.1 b.2.2.2.1 && (Nat.beq a.2.2.2.2.1 b.2.2.2.2.1 && Nat.beq a.2.2.2.2.2 b.2.2.2.2.2))))
def x_eqS (a b : xS) : Bool := x_eqL x_eqF a.1 b.1 && (x_eqL x_eqC a.2.1 b.2.1 && x_eqL x_eqE a.2.2 b.2.2)
theorem x_eqB {a b : Nat} (h : Nat.beq a b = true) : a = b := Nat.eq_of_beq_eq_true h
theorem x_eqI_ok {a b : Int} (h : x_eqI a b = true) : a = b := by
  cases a <;> cases b <;> simp only [x_eqI, Bool.false_eq_true] at h <;> rw [x_eqB h]
theorem x_eqO_ok {a b : Option Nat} (h : x_eqO a b = true) : a = b := by
  cases a <;> cases b <;> simp only [x_eqO, Bool.false_eq_true] at h
  · rfl
  · rw [x_eqB h]
theorem x_eqL_ok {α : Type} {f : α → α → Bool} (hf : ∀ a b, f a b = true → a = b) : ∀ {l k : List α}, x_eqL f l k = true → l = k
  | [], [], _ => rfl
  | a :: l, b :: k, h => by
    unfold x_eqL at h
    cases hfa : f a b with
    | false => rw [hfa] at h; cases h
    | true => rw [hfa] at h; rw [hf a b hfa, x_eqL_ok hf (show x_eqL f l k = true from h)]
  | [], _ :: _, h => by cases h
  | _ :: _, [], h => by cases h
theorem x_eqV_ok (a b : xV) (h : x_eqV a b = true) : a = b := by
  obtain ⟨a1, a2, a3⟩ := a
  obtain ⟨b1, b2, b3⟩ := b
  simp only [x_eqV, Bool.and_eq_true] at h
  rw [x_eqB h.1, x_eqO_ok h.2.1, x_eqI_ok h.2.2]
theorem x_eqN_ok (a b : Nat × xV) (h : x_eqN a b = true) : a = b := by
  obtain ⟨a1, a2⟩ := a
  obtain ⟨b1, b2⟩ := b
  simp only [x_eqN, Bool.and_eq_true] at h
  rw [x_eqB h.1, x_eqV_ok _ _ h.2]
theorem x_eqC_ok (a b : xC) (h : x_eqC a b = true) : a = b := by
  rcases a with ⟨a1, a2, a3, a4, a5⟩ | ⟨a1, a2⟩ <;> rcases b with ⟨b1, b2, b3, b4, b5⟩ | ⟨b1, b2⟩ <;> simp only [x_eqC, Bool.and_eq_true, Bool.false_eq_true] at h
  · rw [x_eqB h.1, x_eqB h.2.1, x_eqI_ok h.2.2.1, x_eqI_ok h.2.2.2.1, x_eqL_ok x_eqN_ok h.2.2.2.2]
  · rw [x_eqB h.1, x_eqL_ok x_eqV_ok h.2]
theorem x_eqE_ok (a b : Int × Int) (h : x_eqE a b = true) : a = b := by
  obtain ⟨a1, a2⟩ := a
  obtain ⟨b1, b2⟩ := b
  simp only [x_eqE, Bool.and_eq_true] at h
  rw [x_eqI_ok h.1, x_eqI_ok h.2]
theorem x_eqF_ok (a b : xF) (h : x_eqF a b = true) : a = b := by
  obtain ⟨a1, a2, a3, a4, a5, a6⟩ := a
  obtain ⟨b1, b2, b3, b4, b5, b6⟩ := b
  simp only [x_eqF, Bool.and_eq_true] at h
  rw [x_eqB h.1, x_eqB h.2.1, x_eqL_ok x_eqN_ok h.2.2.1, x_eqL_ok x_eqV_ok h.2.2.2.1, x_eqB h.2.2.2.2.1, x_eqB h.2.2.2.2.2]
theorem x_eqS_ok (a b : xS) (h : x_eqS a b = true) : a = b := by
  obtain ⟨a1, a2, a3⟩ := a
  obtain ⟨b1, b2, b3⟩ := b
  simp only [x_eqS, Bool.and_eq_true] at h
  rw [x_eqL_ok x_eqF_ok h.1, x_eqL_ok x_eqC_ok h.2.1, x_eqL_ok x_eqE_ok h.2.2]
def x_adv (P : xP) : Nat → xS → Option xS
  | 0, S => some S
  | n + 1, S => match x_step P S with
    | some [S'] => x_adv P n S'
    | _ => none
def x_advT (P : xP) (n : Nat) (S T : xS) : Bool := match x_adv P n S with
  | some q => x_eqS q T
  | none => false
def k_S0_100 : xS := ([(104, 21, [(0, (3, none, 8))], [(0, none, (-1)), (3, none, 8)], 0, 0), (41, 12, [(0, (3, none, 7))], [(3, none, 8), (3, none, 7)], 17, 350), (135, 34, [(0, (3, none, 0))], [(3, none, 7), (3, none, 0)], 43, 2405), (0, 7, [(0, (4, none, 0))], [(3, none, 0)], 63, 7038)], [.inr (11, [(3, none, 1), (3, none, 3), (2, none, 0), (2, none, 0), (2, none, 0), (2, none, 0), (2, none, 0), (2, none, 0), (2, none, 0), (0, none, 0), (0, none, 0), (0, none, 0), (0, none, 0)]), .inr (8, [(3, none, 2), (0, none, 0)]), .inl (0, 1600, 0, 0, []), .inr (10, [(3, none, 4), (3, none, 5), (0, none, 0)]), .inr (7, [(3, none, 5)]), .inr (3, [(3, none, 6), (0, none, 0), (0, none, 0), (0, none, 0), (0, none, 0), (0, none, 0), (0, none, 0), (0, none, 0)]), .inl (0, 0, 0, 0, []), .inr (5, [(2, none, 0), (2, none, 0), (2, none, 0), (2, none, 0)]), .inr (9, [(0, none, 0), (0, none, 0), (0, none, 0), (0, none, 0), (2, none, 0), (2, none, 0), (2, none, 0), (2, none, 0), (2, none, 0), (2, none, 0), (2, none, 0), (2, none, 0), (2, none, 0), (2, none, 0), (2, none, 0), (2, none, 0)])], [((-2147483648), 2147483647), ((-2147483648), 2147483647), ((-2147483648), 2147483647), ((-2147483648), 2147483647), ((-2147483648), 2147483647), ((-2147483648), 2147483647), (0, 6)])
theorem k_adv_0_100 : x_advT k_P 100 k_S k_S0_100 = true := by decide +kernel
def k_S100_200 : xS := ([(15, 14, [(0, (3, none, 44))], [(3, none, 44)], 1, 1620), (135, 45, [(0, (3, none, 0))], [(3, none, 44), (3, none, 0)], 45, 4028), (0, 7, [(0, (4, none, 0))], [(3, none, 0)], 63, 7038)], [.inr (11, [(3, none, 1), (3, none, 3), (3, none, 7), (2, none, 0), (2, none, 0), (2, none, 0), (2, none, 0), (2, none, 0), (2, none, 0), (0, none, 0), (0, none, 0), (0, none, 0), (0, none, 0)]), .inr (8, [(3, none, 2), (0, none, 0)]), .inl (0, 1600, 0, 0, []), .inr (10, [(3, none, 4), (3, none, 5), (0, none, 0)]), .inr (7, [(3, none, 5)]), .inr (3, [(3, none, 6), (0, none, 0), (0, none, 0), (0, none, 0), (0, none, 0), (0, none, 0), (0, none, 0), (0, none, 0)]), .inl (0, 0, 0, 0, []), .inr (5, [(3, none, 8), (3, none, 25), (3, none, 42), (3, none, 43)]), .inr (9, [(0, none, 0), (0, none, 0), (0, none, 0), (0, none, (-1)), (3, none, 9), (3, none, 10), (3, none, 11), (3, none, 12), (3, none, 13), (3, none, 14), (3, none, 15), (3, none, 16), (3, none, 17), (3, none, 18), (3, none, 19), (3, none, 22)]), .inl (0, 8, 0, 0, []), .inl (0, 8, 0, 0, []), .inl (0, 8, 0, 0, []), .inl (0, 64, 0, 0, []), .inl (0, 8, 0, 0, []), .inl (0, 8, 0, 0, []), .inl (0, 8, 0, 0, []), .inl (0, 8, 0, 0, []), .inl (0, 8, 0, 0, []), .inl (0, 8, 0, 0, []), .inr (1, [(3, none, 20), (3, none, 21), (0, none, 0)]), .inl (0, 64, 0, 0, []), .inl (0, 32, 0, 0, []), .inr (1, [(3, none, 23), (3, none, 24), (0, none, 0)]), .inl (0, 64, 0, 0, []), .inl (0, 32, 0, 0, []), .inr (9, [(0, none, 0), (0, none, 0), (0, none, 0), (0, none, (-1)), (3, none, 26), (3, none, 27), (3, none, 28), (3, none, 29), (3, none, 30), (3, none, 31), (3, none, 32), (3, none, 33), (3, none, 34), (3, none, 35), (3, none, 36), (3, none, 39)]), .inl (0, 8, 0, 0, []), .inl (0, 8, 0, 0, []), .inl (0, 8, 0, 0, []), .inl (0, 64, 0, 0, []), .inl (0, 8, 0, 0, []), .inl (0, 8, 0, 0, []), .inl (0, 8, 0, 0, []), .inl (0, 8, 0, 0, []), .inl (0, 8, 0, 0, []), .inl (0, 8, 0, 0, []), .inr (1, [(3, none, 37), (3, none, 38), (0, none, 0)]), .inl (0, 64, 0, 0, []), .inl (0, 32, 0, 0, []), .inr (1, [(3, none, 40), (3, none, 41), (0, none, 0)]), .inl (0, 64, 0, 0, []), .inl (0, 32, 0, 0, []), .inl (0, 81, 0, 0, []), .inl (0, 6, 0, 0, []), .inr (2, [(3, none, 45), (0, none, 0), (0, none, 0)]), .inl (0, 1620, 0, 0, [])], [((-2147483648), 2147483647), ((-2147483648), 2147483647), ((-2147483648), 2147483647), ((-2147483648), 2147483647), ((-2147483648), 2147483647), ((-2147483648), 2147483647), (0, 6)])
theorem k_adv_100_200 : x_advT k_P 200 k_S0_100 k_S100_200 = true := by decide +kernel
def k_S300_600 : xS := ([(0, 20, [(3, (0, none, 0)), (2, (3, none, 63)), (1, (3, none, 0)), (0, (4, none, 0))], [(4, none, 0), (0, none, 0)], 114, 22650)], [.inr (11, [(3, none, 1), (3, none, 3), (3, none, 7), (3, none, 44), (3, none, 46), (3, none, 51), (3, none, 54), (3, none, 61), (3, none, 62), (0, none, 0), (0, none, 0), (0, none, (-1)), (0, none, 1)]), .inr (8, [(3, none, 2), (0, none, 0)]), .inl (0, 1600, 0, 0, []), .inr (10, [(3, none, 4), (3, none, 5), (0, none, 0)]), .inr (7, [(3, none, 5)]), .inr (3, [(3, none, 6), (0, none, 0), (0, none, 0), (0, none, 0), (0, none, 0), (0, none, 0), (0, none, 0), (0, none, 0)]), .inl (0, 0, 0, 0, []), .inr (5, [(3, none, 8), (3, none, 25), (3, none, 42), (3, none, 43)]), .inr (9, [(0, none, 0), (0, none, 0), (0, none, 0), (0, none, (-1)), (3, none, 9), (3, none, 10), (3, none, 11), (3, none, 12), (3, none, 13), (3, none, 14), (3, none, 15), (3, none, 16), (3, none, 17), (3, none, 18), (3, none, 19), (3, none, 22)]), .inl (0, 8, 0, 0, []), .inl (0, 8, 0, 0, []), .inl (0, 8, 0, 0, []), .inl (0, 64, 0, 0, []), .inl (0, 8, 0, 0, []), .inl (0, 8, 0, 0, []), .inl (0, 8, 0, 0, []), .inl (0, 8, 0, 0, []), .inl (0, 8, 0, 0, []), .inl (0, 8, 0, 0, []), .inr (1, [(3, none, 20), (3, none, 21), (0, none, 0)]), .inl (0, 64, 0, 0, []), .inl (0, 32, 0, 0, []), .inr (1, [(3, none, 23), (3, none, 24), (0, none, 0)]), .inl (0, 64, 0, 0, []), .inl (0, 32, 0, 0, []), .inr (9, [(0, none, 0), (0, none, 0), (0, none, 0), (0, none, (-1)), (3, none, 26), (3, none, 27), (3, none, 28), (3, none, 29), (3, none, 30), (3, none, 31), (3, none, 32), (3, none, 33), (3, none, 34), (3, none, 35), (3, none, 36), (3, none, 39)]), .inl (0, 8, 0, 0, []), .inl (0, 8, 0, 0, []), .inl (0, 8, 0, 0, []), .inl (0, 64, 0, 0, []), .inl (0, 8, 0, 0, []), .inl (0, 8, 0, 0, []), .inl (0, 8, 0, 0, []), .inl (0, 8, 0, 0, []), .inl (0, 8, 0, 0, []), .inl (0, 8, 0, 0, []), .inr (1, [(3, none, 37), (3, none, 38), (0, none, 0)]), .inl (0, 64, 0, 0, []), .inl (0, 32, 0, 0, []), .inr (1, [(3, none, 40), (3, none, 41), (0, none, 0)]), .inl (0, 64, 0, 0, []), .inl (0, 32, 0, 0, []), .inl (0, 81, 0, 0, []), .inl (0, 6, 0, 0, []), .inr (2, [(3, none, 45), (0, none, 0), (0, none, 0)]), .inl (0, 1620, 0, 0, []), .inr (4, [(3, none, 47), (3, none, 48), (3, none, 49), (3, none, 50), (0, none, 0), (0, none, 0), (0, none, (-1))]), .inl (0, 64, 0, 0, []), .inl (0, 64, 0, 0, []), .inl (0, 8, 0, 0, []), .inl (0, 8, 0, 0, []), .inr (0, [(3, none, 52), (3, none, 53), (0, none, 0)]), .inl (0, 104, 0, 0, []), .inl (0, 12, 0, 0, []), .inr (6, [(3, none, 55), (3, none, 56), (3, none, 57), (3, none, 58), (3, none, 59), (3, none, 60), (0, none, 0), (0, none, 1)]), .inl (0, 8, 0, 0, []), .inl (0, 8, 0, 0, []), .inl (0, 2048, 0, 0, []), .inl (0, 256, 0, 0, []), .inl (0, 256, 0, 0, []), .inl (0, 64, 0, 0, []), .inl (0, 6, 0, 0, []), .inl (0, 73, 0, 0, []), .inr (12, [(3, none, 64), (0, none, 0), (0, none, 0), (0, none, 0), (0, none, 0), (0, none, 0), (0, none, 0), (1, none, 0), (0, none, 0), (0, none, 0), (0, none, (-1)), (0, none, 0), (0, none, (-1)), (0, none, (-1)), (0, none, 0), (3, none, 65), (3, none, 66), (3, none, 67), (3, none, 68), (3, none, 69), (3, none, 70), (3, none, 71), (3, none, 72), (3, none, 73), (3, none, 74), (3, none, 75), (3, none, 76), (3, none, 77), (3, none, 78), (3, none, 79), (3, none, 80), (3, none, 81), (3, none, 82), (3, none, 83), (3, none, 84), (0, none, 0), (0, none, 1), (3, none, 85), (3, none, 86), (3, none, 87), (3, none, 88), (3, none, 89), (0, none, 0), (0, none, 0), (3, none, 90), (0, none, 0), (0, none, 0), (3, none, 91), (3, none, 92), (3, none, 93), (3, none, 94), (3, none, 95), (3, none, 96), (3, none, 97), (3, none, 98), (3, none, 99), (3, none, 100), (3, none, 101), (0, none, 0), (0, none, 0), (1, none, 1), (3, none, 102), (0, none, 0), (0, none, 0), (0, none, 0), (3, none, 103), (3, none, 104), (3, none, 105), (0, none, 0), (3, none, 106), (0, none, 0), (3, none, 107), (0, none, 0), (3, none, 108), (3, none, 109), (3, none, 110), (3, none, 111), (3, none, 112), (3, none, 113), (0, none, 0)]), .inl (0, 1800, 0, 0, []), .inl (0, 2, 0, 0, []), .inl (0, 16, 0, 0, []), .inl (0, 16, 0, 0, []), .inl (0, 128, 0, 0, []), .inl (0, 2, 0, 0, []), .inl (0, 16, 0, 0, []), .inl (0, 16, 0, 0, []), .inl (0, 16, 0, 0, []), .inl (0, 16, 0, 0, []), .inl (0, 16, 0, 0, [(15, (0, none, (-1))), (14, (0, none, (-1))), (13, (0, none, (-1))), (12, (0, none, (-1))), (11, (0, none, (-1))), (10, (0, none, (-1))), (9, (0, none, (-1))), (8, (0, none, (-1))), (7, (0, none, (-1))), (6, (0, none, (-1))), (5, (0, none, (-1))), (4, (0, none, (-1))), (3, (0, none, (-1))), (2, (0, none, (-1))), (1, (0, none, (-1))), (0, (0, none, (-1)))]), .inl (0, 2, 0, 0, [(0, (0, none, (-1)))]), .inl (0, 2, 0, 0, []), .inl (0, 2, 0, 0, [(0, (0, none, (-1)))]), .inl (0, 2, 0, 0, []), .inl (0, 2, 0, 0, []), .inl (0, 2, 0, 0, [(0, (0, none, (-1)))]), .inl (0, 3200, 0, 0, []), .inl (0, 3200, 0, 0, []), .inl (1, 16, 0, 0, []), .inl (1, 16, 0, 0, []), .inl (0, 20, 0, 0, []), .inl (0, 20, 0, 0, []), .inl (2, 20, 0, 0, []), .inl (0, 20, 0, 0, []), .inl (0, 20, 0, 0, []), .inl (0, 500, 0, 0, []), .inl (0, 6, 0, 0, []), .inl (0, 176, 0, 0, []), .inl (0, 176, 0, 0, []), .inl (0, 176, 0, 0, []), .inl (0, 176, 0, 0, []), .inl (0, 176, 0, 0, []), .inl (0, 22, 0, 0, []), .inl (0, 880, 0, 0, []), .inl (0, 880, 0, 0, []), .inl (0, 880, 0, 0, []), .inl (0, 880, 0, 0, []), .inl (1, 500, 0, 0, []), .inl (0, 64, 0, 0, []), .inl (0, 64, 0, 0, []), .inl (0, 8, 0, 0, []), .inl (0, 12, 0, 0, []), .inl (0, 64, 0, 0, []), .inl (0, 8, 0, 0, []), .inl (0, 8, 0, 0, []), .inl (0, 600, 0, 0, []), .inl (0, 600, 0, 0, []), .inl (0, 8, 0, 0, []), .inl (0, 80, 0, 0, [])], [((-2147483648), 2147483647), ((-2147483648), 2147483647), ((-2147483648), 2147483647), ((-2147483648), 2147483647), ((-2147483648), 2147483647), ((-2147483648), 2147483647), (0, 6)])
theorem k_adv_300_600 : x_advT k_P 600 k_S100_200 k_S300_600 = true := by decide +kernel
end
