section
-- ===== PART A: goes FIRST, ahead of the names: the tables' words, and 'selects' of the private methods out of them =====
/-- a private method of a class that the tables say can be made, by its rows of tables_1 -/
def lw_okq (q : MethodName × Nat) : Prop := (q.1.cls ≠ "java/lang/invoke/MethodHandle" ∧ q.1.cls ≠ "java/lang/invoke/VarHandle") ∧ Cond.instantiable q.1.cls q.2 ∈ tables_1 ∧ Cond.privateMethod q.1 ∈ tables_1 ∧ Cond.instanceMethod q.1 ∈ tables_1
theorem lw_p0 : lw_okq (⟨"OwnChair", "refuse", "(I)I"⟩, 13) := ⟨⟨by decide +kernel, by decide +kernel⟩, List.mem_of_getElem? (i := 19) (by decide +kernel), List.mem_of_getElem? (i := 398) (by decide +kernel), List.mem_of_getElem? (i := 399) (by decide +kernel)⟩
theorem lw_p1 : lw_okq (⟨"OwnChair$Lexer", "readWord", "()V"⟩, 8) := ⟨⟨by decide +kernel, by decide +kernel⟩, List.mem_of_getElem? (i := 62) (by decide +kernel), List.mem_of_getElem? (i := 456) (by decide +kernel), List.mem_of_getElem? (i := 457) (by decide +kernel)⟩
theorem lw_p2 : lw_okq (⟨"OwnChair$Lexer", "readNumber", "()V"⟩, 8) := ⟨⟨by decide +kernel, by decide +kernel⟩, List.mem_of_getElem? (i := 62) (by decide +kernel), List.mem_of_getElem? (i := 464) (by decide +kernel), List.mem_of_getElem? (i := 465) (by decide +kernel)⟩
theorem lw_p3 : lw_okq (⟨"OwnChair$TownReader", "readStatement", "(LOwnChair$Town;)Z"⟩, 3) := ⟨⟨by decide +kernel, by decide +kernel⟩, List.mem_of_getElem? (i := 50) (by decide +kernel), List.mem_of_getElem? (i := 468) (by decide +kernel), List.mem_of_getElem? (i := 469) (by decide +kernel)⟩
theorem lw_p4 : lw_okq (⟨"OwnChair$TownReader", "readRoom", "(LOwnChair$Town;)Z"⟩, 3) := ⟨⟨by decide +kernel, by decide +kernel⟩, List.mem_of_getElem? (i := 50) (by decide +kernel), List.mem_of_getElem? (i := 473) (by decide +kernel), List.mem_of_getElem? (i := 474) (by decide +kernel)⟩
theorem lw_p5 : lw_okq (⟨"OwnChair$TownReader", "freshName", "(LOwnChair$Town;)I"⟩, 3) := ⟨⟨by decide +kernel, by decide +kernel⟩, List.mem_of_getElem? (i := 50) (by decide +kernel), List.mem_of_getElem? (i := 477) (by decide +kernel), List.mem_of_getElem? (i := 478) (by decide +kernel)⟩
theorem lw_p6 : lw_okq (⟨"OwnChair$TownReader", "readNumber", "(III)Z"⟩, 3) := ⟨⟨by decide +kernel, by decide +kernel⟩, List.mem_of_getElem? (i := 50) (by decide +kernel), List.mem_of_getElem? (i := 493) (by decide +kernel), List.mem_of_getElem? (i := 494) (by decide +kernel)⟩
theorem lw_p7 : lw_okq (⟨"OwnChair$TownReader", "readWay", "(LOwnChair$Town;)Z"⟩, 3) := ⟨⟨by decide +kernel, by decide +kernel⟩, List.mem_of_getElem? (i := 50) (by decide +kernel), List.mem_of_getElem? (i := 506) (by decide +kernel), List.mem_of_getElem? (i := 507) (by decide +kernel)⟩
theorem lw_p8 : lw_okq (⟨"OwnChair$TownReader", "knownRoom", "(LOwnChair$Town;)I"⟩, 3) := ⟨⟨by decide +kernel, by decide +kernel⟩, List.mem_of_getElem? (i := 50) (by decide +kernel), List.mem_of_getElem? (i := 510) (by decide +kernel), List.mem_of_getElem? (i := 511) (by decide +kernel)⟩
theorem lw_p9 : lw_okq (⟨"OwnChair$TownReader", "readPerson", "(LOwnChair$Town;)Z"⟩, 3) := ⟨⟨by decide +kernel, by decide +kernel⟩, List.mem_of_getElem? (i := 50) (by decide +kernel), List.mem_of_getElem? (i := 523) (by decide +kernel), List.mem_of_getElem? (i := 524) (by decide +kernel)⟩
theorem lw_p10 : lw_okq (⟨"OwnChair$TownReader", "readHome", "(LOwnChair$Town;I)I"⟩, 3) := ⟨⟨by decide +kernel, by decide +kernel⟩, List.mem_of_getElem? (i := 50) (by decide +kernel), List.mem_of_getElem? (i := 530) (by decide +kernel), List.mem_of_getElem? (i := 531) (by decide +kernel)⟩
theorem lw_p11 : lw_okq (⟨"OwnChair$TownReader", "readJoined", "(LOwnChair$Town;)Z"⟩, 3) := ⟨⟨by decide +kernel, by decide +kernel⟩, List.mem_of_getElem? (i := 50) (by decide +kernel), List.mem_of_getElem? (i := 543) (by decide +kernel), List.mem_of_getElem? (i := 544) (by decide +kernel)⟩
theorem lw_p12 : lw_okq (⟨"OwnChair$TownReader", "unjoinedPerson", "(LOwnChair$Town;I)I"⟩, 3) := ⟨⟨by decide +kernel, by decide +kernel⟩, List.mem_of_getElem? (i := 50) (by decide +kernel), List.mem_of_getElem? (i := 547) (by decide +kernel), List.mem_of_getElem? (i := 548) (by decide +kernel)⟩
theorem lw_p13 : lw_okq (⟨"OwnChair$TownReader", "beginSum", "(LOwnChair$Formula;)Z"⟩, 3) := ⟨⟨by decide +kernel, by decide +kernel⟩, List.mem_of_getElem? (i := 50) (by decide +kernel), List.mem_of_getElem? (i := 559) (by decide +kernel), List.mem_of_getElem? (i := 560) (by decide +kernel)⟩
theorem lw_p14 : lw_okq (⟨"OwnChair$SumReader", "readSum", "(LOwnChair$Formula;I)Z"⟩, 1) := ⟨⟨by decide +kernel, by decide +kernel⟩, List.mem_of_getElem? (i := 56) (by decide +kernel), List.mem_of_getElem? (i := 563) (by decide +kernel), List.mem_of_getElem? (i := 564) (by decide +kernel)⟩
theorem lw_p15 : lw_okq (⟨"OwnChair$SumReader", "readProduct", "(LOwnChair$Formula;I)Z"⟩, 1) := ⟨⟨by decide +kernel, by decide +kernel⟩, List.mem_of_getElem? (i := 56) (by decide +kernel), List.mem_of_getElem? (i := 567) (by decide +kernel), List.mem_of_getElem? (i := 568) (by decide +kernel)⟩
def lw_privs_1 : List (MethodName × Nat) := [(⟨"OwnChair", "refuse", "(I)I"⟩, 13), (⟨"OwnChair$Lexer", "readWord", "()V"⟩, 8), (⟨"OwnChair$Lexer", "readNumber", "()V"⟩, 8), (⟨"OwnChair$TownReader", "readStatement", "(LOwnChair$Town;)Z"⟩, 3), (⟨"OwnChair$TownReader", "readRoom", "(LOwnChair$Town;)Z"⟩, 3), (⟨"OwnChair$TownReader", "freshName", "(LOwnChair$Town;)I"⟩, 3), (⟨"OwnChair$TownReader", "readNumber", "(III)Z"⟩, 3), (⟨"OwnChair$TownReader", "readWay", "(LOwnChair$Town;)Z"⟩, 3), (⟨"OwnChair$TownReader", "knownRoom", "(LOwnChair$Town;)I"⟩, 3), (⟨"OwnChair$TownReader", "readPerson", "(LOwnChair$Town;)Z"⟩, 3), (⟨"OwnChair$TownReader", "readHome", "(LOwnChair$Town;I)I"⟩, 3), (⟨"OwnChair$TownReader", "readJoined", "(LOwnChair$Town;)Z"⟩, 3), (⟨"OwnChair$TownReader", "unjoinedPerson", "(LOwnChair$Town;I)I"⟩, 3), (⟨"OwnChair$TownReader", "beginSum", "(LOwnChair$Formula;)Z"⟩, 3), (⟨"OwnChair$SumReader", "readSum", "(LOwnChair$Formula;I)Z"⟩, 1), (⟨"OwnChair$SumReader", "readProduct", "(LOwnChair$Formula;I)Z"⟩, 1)]
theorem lw_r1 : ∀ q ∈ lw_privs_1, lw_okq q := List.forall_mem_cons.mpr ⟨lw_p0, List.forall_mem_cons.mpr ⟨lw_p1, List.forall_mem_cons.mpr ⟨lw_p2, List.forall_mem_cons.mpr ⟨lw_p3, List.forall_mem_cons.mpr ⟨lw_p4, List.forall_mem_cons.mpr ⟨lw_p5, List.forall_mem_cons.mpr ⟨lw_p6, List.forall_mem_cons.mpr ⟨lw_p7, List.forall_mem_cons.mpr ⟨lw_p8, List.forall_mem_cons.mpr ⟨lw_p9, List.forall_mem_cons.mpr ⟨lw_p10, List.forall_mem_cons.mpr ⟨lw_p11, List.forall_mem_cons.mpr ⟨lw_p12, List.forall_mem_cons.mpr ⟨lw_p13, List.forall_mem_cons.mpr ⟨lw_p14, List.forall_mem_cons.mpr ⟨lw_p15, fun _ h => absurd h List.not_mem_nil⟩⟩⟩⟩⟩⟩⟩⟩⟩⟩⟩⟩⟩⟩⟩⟩
theorem lw_p16 : lw_okq (⟨"OwnChair$SumReader", "readPart", "(LOwnChair$Formula;I)Z"⟩, 1) := ⟨⟨by decide +kernel, by decide +kernel⟩, List.mem_of_getElem? (i := 56) (by decide +kernel), List.mem_of_getElem? (i := 571) (by decide +kernel), List.mem_of_getElem? (i := 572) (by decide +kernel)⟩
theorem lw_p17 : lw_okq (⟨"OwnChair$SumReader", "readSimple", "(LOwnChair$Formula;I)Z"⟩, 1) := ⟨⟨by decide +kernel, by decide +kernel⟩, List.mem_of_getElem? (i := 56) (by decide +kernel), List.mem_of_getElem? (i := 575) (by decide +kernel), List.mem_of_getElem? (i := 576) (by decide +kernel)⟩
theorem lw_p18 : lw_okq (⟨"OwnChair$SumReader", "opens", "(CI)Z"⟩, 1) := ⟨⟨by decide +kernel, by decide +kernel⟩, List.mem_of_getElem? (i := 56) (by decide +kernel), List.mem_of_getElem? (i := 602) (by decide +kernel), List.mem_of_getElem? (i := 603) (by decide +kernel)⟩
theorem lw_p19 : lw_okq (⟨"OwnChair$SumReader", "readPair", "(LOwnChair$Formula;II)Z"⟩, 1) := ⟨⟨by decide +kernel, by decide +kernel⟩, List.mem_of_getElem? (i := 56) (by decide +kernel), List.mem_of_getElem? (i := 615) (by decide +kernel), List.mem_of_getElem? (i := 616) (by decide +kernel)⟩
theorem lw_p20 : lw_okq (⟨"OwnChair$SumReader", "readChoice", "(LOwnChair$Formula;I)Z"⟩, 1) := ⟨⟨by decide +kernel, by decide +kernel⟩, List.mem_of_getElem? (i := 56) (by decide +kernel), List.mem_of_getElem? (i := 619) (by decide +kernel), List.mem_of_getElem? (i := 620) (by decide +kernel)⟩
theorem lw_p21 : lw_okq (⟨"OwnChair$SumReader", "readTest", "(LOwnChair$Formula;I)Z"⟩, 1) := ⟨⟨by decide +kernel, by decide +kernel⟩, List.mem_of_getElem? (i := 56) (by decide +kernel), List.mem_of_getElem? (i := 623) (by decide +kernel), List.mem_of_getElem? (i := 624) (by decide +kernel)⟩
theorem lw_p22 : lw_okq (⟨"OwnChair$SumReader", "readBoth", "(LOwnChair$Formula;I)Z"⟩, 1) := ⟨⟨by decide +kernel, by decide +kernel⟩, List.mem_of_getElem? (i := 56) (by decide +kernel), List.mem_of_getElem? (i := 627) (by decide +kernel), List.mem_of_getElem? (i := 628) (by decide +kernel)⟩
theorem lw_p23 : lw_okq (⟨"OwnChair$SumReader", "readFact", "(LOwnChair$Formula;I)Z"⟩, 1) := ⟨⟨by decide +kernel, by decide +kernel⟩, List.mem_of_getElem? (i := 56) (by decide +kernel), List.mem_of_getElem? (i := 631) (by decide +kernel), List.mem_of_getElem? (i := 632) (by decide +kernel)⟩
theorem lw_p24 : lw_okq (⟨"OwnChair$SumReader", "readDenial", "(LOwnChair$Formula;I)Z"⟩, 1) := ⟨⟨by decide +kernel, by decide +kernel⟩, List.mem_of_getElem? (i := 56) (by decide +kernel), List.mem_of_getElem? (i := 637) (by decide +kernel), List.mem_of_getElem? (i := 638) (by decide +kernel)⟩
theorem lw_p25 : lw_okq (⟨"OwnChair$SumReader", "readComparison", "(LOwnChair$Formula;I)Z"⟩, 1) := ⟨⟨by decide +kernel, by decide +kernel⟩, List.mem_of_getElem? (i := 56) (by decide +kernel), List.mem_of_getElem? (i := 642) (by decide +kernel), List.mem_of_getElem? (i := 643) (by decide +kernel)⟩
theorem lw_p26 : lw_okq (⟨"OwnChair$SumReader", "productStep", "()I"⟩, 1) := ⟨⟨by decide +kernel, by decide +kernel⟩, List.mem_of_getElem? (i := 56) (by decide +kernel), List.mem_of_getElem? (i := 648) (by decide +kernel), List.mem_of_getElem? (i := 649) (by decide +kernel)⟩
theorem lw_p27 : lw_okq (⟨"OwnChair$TownReader", "readBreaks", "(LOwnChair$Town;)Z"⟩, 3) := ⟨⟨by decide +kernel, by decide +kernel⟩, List.mem_of_getElem? (i := 50) (by decide +kernel), List.mem_of_getElem? (i := 652) (by decide +kernel), List.mem_of_getElem? (i := 653) (by decide +kernel)⟩
theorem lw_p28 : lw_okq (⟨"OwnChair$TownReader", "readCarpenter", "(LOwnChair$Town;)Z"⟩, 3) := ⟨⟨by decide +kernel, by decide +kernel⟩, List.mem_of_getElem? (i := 50) (by decide +kernel), List.mem_of_getElem? (i := 657) (by decide +kernel), List.mem_of_getElem? (i := 658) (by decide +kernel)⟩
theorem lw_p29 : lw_okq (⟨"OwnChair$Scene", "give", "(III)V"⟩, 4) := ⟨⟨by decide +kernel, by decide +kernel⟩, List.mem_of_getElem? (i := 118) (by decide +kernel), List.mem_of_getElem? (i := 807) (by decide +kernel), List.mem_of_getElem? (i := 808) (by decide +kernel)⟩
theorem lw_p30 : lw_okq (⟨"OwnChair", "move", "(IIII)V"⟩, 13) := ⟨⟨by decide +kernel, by decide +kernel⟩, List.mem_of_getElem? (i := 19) (by decide +kernel), List.mem_of_getElem? (i := 850) (by decide +kernel), List.mem_of_getElem? (i := 851) (by decide +kernel)⟩
theorem lw_p31 : lw_okq (⟨"OwnChair$Scene", "spend", "(II)V"⟩, 4) := ⟨⟨by decide +kernel, by decide +kernel⟩, List.mem_of_getElem? (i := 118) (by decide +kernel), List.mem_of_getElem? (i := 858) (by decide +kernel), List.mem_of_getElem? (i := 859) (by decide +kernel)⟩
def lw_privs_2 : List (MethodName × Nat) := [(⟨"OwnChair$SumReader", "readPart", "(LOwnChair$Formula;I)Z"⟩, 1), (⟨"OwnChair$SumReader", "readSimple", "(LOwnChair$Formula;I)Z"⟩, 1), (⟨"OwnChair$SumReader", "opens", "(CI)Z"⟩, 1), (⟨"OwnChair$SumReader", "readPair", "(LOwnChair$Formula;II)Z"⟩, 1), (⟨"OwnChair$SumReader", "readChoice", "(LOwnChair$Formula;I)Z"⟩, 1), (⟨"OwnChair$SumReader", "readTest", "(LOwnChair$Formula;I)Z"⟩, 1), (⟨"OwnChair$SumReader", "readBoth", "(LOwnChair$Formula;I)Z"⟩, 1), (⟨"OwnChair$SumReader", "readFact", "(LOwnChair$Formula;I)Z"⟩, 1), (⟨"OwnChair$SumReader", "readDenial", "(LOwnChair$Formula;I)Z"⟩, 1), (⟨"OwnChair$SumReader", "readComparison", "(LOwnChair$Formula;I)Z"⟩, 1), (⟨"OwnChair$SumReader", "productStep", "()I"⟩, 1), (⟨"OwnChair$TownReader", "readBreaks", "(LOwnChair$Town;)Z"⟩, 3), (⟨"OwnChair$TownReader", "readCarpenter", "(LOwnChair$Town;)Z"⟩, 3), (⟨"OwnChair$Scene", "give", "(III)V"⟩, 4), (⟨"OwnChair", "move", "(IIII)V"⟩, 13), (⟨"OwnChair$Scene", "spend", "(II)V"⟩, 4)]
theorem lw_r2 : ∀ q ∈ lw_privs_2, lw_okq q := List.forall_mem_cons.mpr ⟨lw_p16, List.forall_mem_cons.mpr ⟨lw_p17, List.forall_mem_cons.mpr ⟨lw_p18, List.forall_mem_cons.mpr ⟨lw_p19, List.forall_mem_cons.mpr ⟨lw_p20, List.forall_mem_cons.mpr ⟨lw_p21, List.forall_mem_cons.mpr ⟨lw_p22, List.forall_mem_cons.mpr ⟨lw_p23, List.forall_mem_cons.mpr ⟨lw_p24, List.forall_mem_cons.mpr ⟨lw_p25, List.forall_mem_cons.mpr ⟨lw_p26, List.forall_mem_cons.mpr ⟨lw_p27, List.forall_mem_cons.mpr ⟨lw_p28, List.forall_mem_cons.mpr ⟨lw_p29, List.forall_mem_cons.mpr ⟨lw_p30, List.forall_mem_cons.mpr ⟨lw_p31, fun _ h => absurd h List.not_mem_nil⟩⟩⟩⟩⟩⟩⟩⟩⟩⟩⟩⟩⟩⟩⟩⟩
theorem lw_p32 : lw_okq (⟨"OwnChair", "chanceOf", "(I)I"⟩, 13) := ⟨⟨by decide +kernel, by decide +kernel⟩, List.mem_of_getElem? (i := 19) (by decide +kernel), List.mem_of_getElem? (i := 870) (by decide +kernel), List.mem_of_getElem? (i := 871) (by decide +kernel)⟩
theorem lw_p33 : lw_okq (⟨"OwnChair", "liveDay", "(I)I"⟩, 13) := ⟨⟨by decide +kernel, by decide +kernel⟩, List.mem_of_getElem? (i := 19) (by decide +kernel), List.mem_of_getElem? (i := 905) (by decide +kernel), List.mem_of_getElem? (i := 906) (by decide +kernel)⟩
theorem lw_p34 : lw_okq (⟨"OwnChair", "canTravel", "(II)Z"⟩, 13) := ⟨⟨by decide +kernel, by decide +kernel⟩, List.mem_of_getElem? (i := 19) (by decide +kernel), List.mem_of_getElem? (i := 944) (by decide +kernel), List.mem_of_getElem? (i := 945) (by decide +kernel)⟩
theorem lw_p35 : lw_okq (⟨"OwnChair$Paths", "layPerson", "(LOwnChair$Scene;II)V"⟩, 7) := ⟨⟨by decide +kernel, by decide +kernel⟩, List.mem_of_getElem? (i := 274) (by decide +kernel), List.mem_of_getElem? (i := 953) (by decide +kernel), List.mem_of_getElem? (i := 954) (by decide +kernel)⟩
theorem lw_p36 : lw_okq (⟨"OwnChair$Paths", "measure", "(II)V"⟩, 7) := ⟨⟨by decide +kernel, by decide +kernel⟩, List.mem_of_getElem? (i := 274) (by decide +kernel), List.mem_of_getElem? (i := 964) (by decide +kernel), List.mem_of_getElem? (i := 965) (by decide +kernel)⟩
theorem lw_p37 : lw_okq (⟨"OwnChair$Paths", "firstOnward", "(II)I"⟩, 7) := ⟨⟨by decide +kernel, by decide +kernel⟩, List.mem_of_getElem? (i := 274) (by decide +kernel), List.mem_of_getElem? (i := 970) (by decide +kernel), List.mem_of_getElem? (i := 971) (by decide +kernel)⟩
theorem lw_p38 : lw_okq (⟨"OwnChair$Errand", "without", "(LOwnChair$Scene;LOwnChair$Tape;III)I"⟩, 3) := ⟨⟨by decide +kernel, by decide +kernel⟩, List.mem_of_getElem? (i := 303) (by decide +kernel), List.mem_of_getElem? (i := 1006) (by decide +kernel), List.mem_of_getElem? (i := 1007) (by decide +kernel)⟩
theorem lw_p39 : lw_okq (⟨"OwnChair$Errand", "arrived", "(LOwnChair$Scene;LOwnChair$Tape;IIII)I"⟩, 3) := ⟨⟨by decide +kernel, by decide +kernel⟩, List.mem_of_getElem? (i := 303) (by decide +kernel), List.mem_of_getElem? (i := 1013) (by decide +kernel), List.mem_of_getElem? (i := 1014) (by decide +kernel)⟩
theorem lw_p40 : lw_okq (⟨"OwnChair$Errand", "with", "(LOwnChair$Scene;LOwnChair$Tape;III)I"⟩, 3) := ⟨⟨by decide +kernel, by decide +kernel⟩, List.mem_of_getElem? (i := 303) (by decide +kernel), List.mem_of_getElem? (i := 1020) (by decide +kernel), List.mem_of_getElem? (i := 1021) (by decide +kernel)⟩
theorem lw_p41 : lw_okq (⟨"OwnChair$Errand", "follow", "(LOwnChair$Scene;LOwnChair$Tape;II)V"⟩, 3) := ⟨⟨by decide +kernel, by decide +kernel⟩, List.mem_of_getElem? (i := 303) (by decide +kernel), List.mem_of_getElem? (i := 1028) (by decide +kernel), List.mem_of_getElem? (i := 1029) (by decide +kernel)⟩
theorem lw_p42 : lw_okq (⟨"OwnChair$Seating", "note", "(LOwnChair$Tape;)V"⟩, 8) := ⟨⟨by decide +kernel, by decide +kernel⟩, List.mem_of_getElem? (i := 321) (by decide +kernel), List.mem_of_getElem? (i := 1066) (by decide +kernel), List.mem_of_getElem? (i := 1067) (by decide +kernel)⟩
theorem lw_p43 : lw_okq (⟨"OwnChair$Seating", "layStates", "(I)Z"⟩, 8) := ⟨⟨by decide +kernel, by decide +kernel⟩, List.mem_of_getElem? (i := 321) (by decide +kernel), List.mem_of_getElem? (i := 1075) (by decide +kernel), List.mem_of_getElem? (i := 1076) (by decide +kernel)⟩
theorem lw_p44 : lw_okq (⟨"OwnChair$Seating", "countBefore", "(LOwnChair$Scene;)V"⟩, 8) := ⟨⟨by decide +kernel, by decide +kernel⟩, List.mem_of_getElem? (i := 321) (by decide +kernel), List.mem_of_getElem? (i := 1080) (by decide +kernel), List.mem_of_getElem? (i := 1081) (by decide +kernel)⟩
theorem lw_p45 : lw_okq (⟨"OwnChair$Seating", "stateBehind", "(LOwnChair$Scene;III)I"⟩, 8) := ⟨⟨by decide +kernel, by decide +kernel⟩, List.mem_of_getElem? (i := 321) (by decide +kernel), List.mem_of_getElem? (i := 1084) (by decide +kernel), List.mem_of_getElem? (i := 1085) (by decide +kernel)⟩
theorem lw_p46 : lw_okq (⟨"OwnChair$Seating", "countPerson", "(LOwnChair$Scene;I)V"⟩, 8) := ⟨⟨by decide +kernel, by decide +kernel⟩, List.mem_of_getElem? (i := 321) (by decide +kernel), List.mem_of_getElem? (i := 1089) (by decide +kernel), List.mem_of_getElem? (i := 1090) (by decide +kernel)⟩
theorem lw_p47 : lw_okq (⟨"OwnChair$Scene", "imageByte", "(II)I"⟩, 4) := ⟨⟨by decide +kernel, by decide +kernel⟩, List.mem_of_getElem? (i := 118) (by decide +kernel), List.mem_of_getElem? (i := 1106) (by decide +kernel), List.mem_of_getElem? (i := 1107) (by decide +kernel)⟩
def lw_privs_3 : List (MethodName × Nat) := [(⟨"OwnChair", "chanceOf", "(I)I"⟩, 13), (⟨"OwnChair", "liveDay", "(I)I"⟩, 13), (⟨"OwnChair", "canTravel", "(II)Z"⟩, 13), (⟨"OwnChair$Paths", "layPerson", "(LOwnChair$Scene;II)V"⟩, 7), (⟨"OwnChair$Paths", "measure", "(II)V"⟩, 7), (⟨"OwnChair$Paths", "firstOnward", "(II)I"⟩, 7), (⟨"OwnChair$Errand", "without", "(LOwnChair$Scene;LOwnChair$Tape;III)I"⟩, 3), (⟨"OwnChair$Errand", "arrived", "(LOwnChair$Scene;LOwnChair$Tape;IIII)I"⟩, 3), (⟨"OwnChair$Errand", "with", "(LOwnChair$Scene;LOwnChair$Tape;III)I"⟩, 3), (⟨"OwnChair$Errand", "follow", "(LOwnChair$Scene;LOwnChair$Tape;II)V"⟩, 3), (⟨"OwnChair$Seating", "note", "(LOwnChair$Tape;)V"⟩, 8), (⟨"OwnChair$Seating", "layStates", "(I)Z"⟩, 8), (⟨"OwnChair$Seating", "countBefore", "(LOwnChair$Scene;)V"⟩, 8), (⟨"OwnChair$Seating", "stateBehind", "(LOwnChair$Scene;III)I"⟩, 8), (⟨"OwnChair$Seating", "countPerson", "(LOwnChair$Scene;I)V"⟩, 8), (⟨"OwnChair$Scene", "imageByte", "(II)I"⟩, 4)]
theorem lw_r3 : ∀ q ∈ lw_privs_3, lw_okq q := List.forall_mem_cons.mpr ⟨lw_p32, List.forall_mem_cons.mpr ⟨lw_p33, List.forall_mem_cons.mpr ⟨lw_p34, List.forall_mem_cons.mpr ⟨lw_p35, List.forall_mem_cons.mpr ⟨lw_p36, List.forall_mem_cons.mpr ⟨lw_p37, List.forall_mem_cons.mpr ⟨lw_p38, List.forall_mem_cons.mpr ⟨lw_p39, List.forall_mem_cons.mpr ⟨lw_p40, List.forall_mem_cons.mpr ⟨lw_p41, List.forall_mem_cons.mpr ⟨lw_p42, List.forall_mem_cons.mpr ⟨lw_p43, List.forall_mem_cons.mpr ⟨lw_p44, List.forall_mem_cons.mpr ⟨lw_p45, List.forall_mem_cons.mpr ⟨lw_p46, List.forall_mem_cons.mpr ⟨lw_p47, fun _ h => absurd h List.not_mem_nil⟩⟩⟩⟩⟩⟩⟩⟩⟩⟩⟩⟩⟩⟩⟩⟩
theorem lw_p48 : lw_okq (⟨"OwnChair$Scene", "floorsHold", "(LOwnChair$Tape;)Z"⟩, 4) := ⟨⟨by decide +kernel, by decide +kernel⟩, List.mem_of_getElem? (i := 118) (by decide +kernel), List.mem_of_getElem? (i := 1125) (by decide +kernel), List.mem_of_getElem? (i := 1126) (by decide +kernel)⟩
theorem lw_p49 : lw_okq (⟨"OwnChairModel", "refuses", "(I)I"⟩, 80) := ⟨⟨by decide +kernel, by decide +kernel⟩, List.mem_of_getElem? (i := 1137) (by decide +kernel), List.mem_of_getElem? (i := 1390) (by decide +kernel), List.mem_of_getElem? (i := 1391) (by decide +kernel)⟩
theorem lw_p50 : lw_okq (⟨"OwnChairModel", "put", "(I)V"⟩, 80) := ⟨⟨by decide +kernel, by decide +kernel⟩, List.mem_of_getElem? (i := 1137) (by decide +kernel), List.mem_of_getElem? (i := 1394) (by decide +kernel), List.mem_of_getElem? (i := 1395) (by decide +kernel)⟩
theorem lw_p51 : lw_okq (⟨"OwnChairModel", "ahead", "()V"⟩, 80) := ⟨⟨by decide +kernel, by decide +kernel⟩, List.mem_of_getElem? (i := 1137) (by decide +kernel), List.mem_of_getElem? (i := 1406) (by decide +kernel), List.mem_of_getElem? (i := 1407) (by decide +kernel)⟩
theorem lw_p52 : lw_okq (⟨"OwnChairModel", "isOwn", "(J)Z"⟩, 80) := ⟨⟨by decide +kernel, by decide +kernel⟩, List.mem_of_getElem? (i := 1137) (by decide +kernel), List.mem_of_getElem? (i := 1417) (by decide +kernel), List.mem_of_getElem? (i := 1418) (by decide +kernel)⟩
theorem lw_p53 : lw_okq (⟨"OwnChairModel", "statement", "()V"⟩, 80) := ⟨⟨by decide +kernel, by decide +kernel⟩, List.mem_of_getElem? (i := 1137) (by decide +kernel), List.mem_of_getElem? (i := 1445) (by decide +kernel), List.mem_of_getElem? (i := 1446) (by decide +kernel)⟩
theorem lw_p54 : lw_okq (⟨"OwnChairModel", "lex", "()V"⟩, 80) := ⟨⟨by decide +kernel, by decide +kernel⟩, List.mem_of_getElem? (i := 1137) (by decide +kernel), List.mem_of_getElem? (i := 1449) (by decide +kernel), List.mem_of_getElem? (i := 1450) (by decide +kernel)⟩
theorem lw_p55 : lw_okq (⟨"OwnChairModel", "blame", "(II)V"⟩, 80) := ⟨⟨by decide +kernel, by decide +kernel⟩, List.mem_of_getElem? (i := 1137) (by decide +kernel), List.mem_of_getElem? (i := 1453) (by decide +kernel), List.mem_of_getElem? (i := 1454) (by decide +kernel)⟩
theorem lw_p56 : lw_okq (⟨"OwnChairModel", "isWord", "(J)Z"⟩, 80) := ⟨⟨by decide +kernel, by decide +kernel⟩, List.mem_of_getElem? (i := 1137) (by decide +kernel), List.mem_of_getElem? (i := 1457) (by decide +kernel), List.mem_of_getElem? (i := 1458) (by decide +kernel)⟩
theorem lw_p57 : lw_okq (⟨"OwnChairModel", "rooming", "()V"⟩, 80) := ⟨⟨by decide +kernel, by decide +kernel⟩, List.mem_of_getElem? (i := 1137) (by decide +kernel), List.mem_of_getElem? (i := 1461) (by decide +kernel), List.mem_of_getElem? (i := 1462) (by decide +kernel)⟩
theorem lw_p58 : lw_okq (⟨"OwnChairModel", "counts", "(Z)Z"⟩, 80) := ⟨⟨by decide +kernel, by decide +kernel⟩, List.mem_of_getElem? (i := 1137) (by decide +kernel), List.mem_of_getElem? (i := 1465) (by decide +kernel), List.mem_of_getElem? (i := 1466) (by decide +kernel)⟩
theorem lw_p59 : lw_okq (⟨"OwnChairModel", "fresh", "()J"⟩, 80) := ⟨⟨by decide +kernel, by decide +kernel⟩, List.mem_of_getElem? (i := 1137) (by decide +kernel), List.mem_of_getElem? (i := 1469) (by decide +kernel), List.mem_of_getElem? (i := 1470) (by decide +kernel)⟩
theorem lw_p60 : lw_okq (⟨"OwnChairModel", "named", "(IJ)I"⟩, 80) := ⟨⟨by decide +kernel, by decide +kernel⟩, List.mem_of_getElem? (i := 1137) (by decide +kernel), List.mem_of_getElem? (i := 1473) (by decide +kernel), List.mem_of_getElem? (i := 1474) (by decide +kernel)⟩
theorem lw_p61 : lw_okq (⟨"OwnChairModel", "manyOf", "(II)I"⟩, 80) := ⟨⟨by decide +kernel, by decide +kernel⟩, List.mem_of_getElem? (i := 1137) (by decide +kernel), List.mem_of_getElem? (i := 1477) (by decide +kernel), List.mem_of_getElem? (i := 1478) (by decide +kernel)⟩
theorem lw_p62 : lw_okq (⟨"OwnChairModel", "nameOf", "(III)J"⟩, 80) := ⟨⟨by decide +kernel, by decide +kernel⟩, List.mem_of_getElem? (i := 1137) (by decide +kernel), List.mem_of_getElem? (i := 1481) (by decide +kernel), List.mem_of_getElem? (i := 1482) (by decide +kernel)⟩
theorem lw_p63 : lw_okq (⟨"OwnChairModel", "must", "(J)V"⟩, 80) := ⟨⟨by decide +kernel, by decide +kernel⟩, List.mem_of_getElem? (i := 1137) (by decide +kernel), List.mem_of_getElem? (i := 1485) (by decide +kernel), List.mem_of_getElem? (i := 1486) (by decide +kernel)⟩
def lw_privs_4 : List (MethodName × Nat) := [(⟨"OwnChair$Scene", "floorsHold", "(LOwnChair$Tape;)Z"⟩, 4), (⟨"OwnChairModel", "refuses", "(I)I"⟩, 80), (⟨"OwnChairModel", "put", "(I)V"⟩, 80), (⟨"OwnChairModel", "ahead", "()V"⟩, 80), (⟨"OwnChairModel", "isOwn", "(J)Z"⟩, 80), (⟨"OwnChairModel", "statement", "()V"⟩, 80), (⟨"OwnChairModel", "lex", "()V"⟩, 80), (⟨"OwnChairModel", "blame", "(II)V"⟩, 80), (⟨"OwnChairModel", "isWord", "(J)Z"⟩, 80), (⟨"OwnChairModel", "rooming", "()V"⟩, 80), (⟨"OwnChairModel", "counts", "(Z)Z"⟩, 80), (⟨"OwnChairModel", "fresh", "()J"⟩, 80), (⟨"OwnChairModel", "named", "(IJ)I"⟩, 80), (⟨"OwnChairModel", "manyOf", "(II)I"⟩, 80), (⟨"OwnChairModel", "nameOf", "(III)J"⟩, 80), (⟨"OwnChairModel", "must", "(J)V"⟩, 80)]
theorem lw_r4 : ∀ q ∈ lw_privs_4, lw_okq q := List.forall_mem_cons.mpr ⟨lw_p48, List.forall_mem_cons.mpr ⟨lw_p49, List.forall_mem_cons.mpr ⟨lw_p50, List.forall_mem_cons.mpr ⟨lw_p51, List.forall_mem_cons.mpr ⟨lw_p52, List.forall_mem_cons.mpr ⟨lw_p53, List.forall_mem_cons.mpr ⟨lw_p54, List.forall_mem_cons.mpr ⟨lw_p55, List.forall_mem_cons.mpr ⟨lw_p56, List.forall_mem_cons.mpr ⟨lw_p57, List.forall_mem_cons.mpr ⟨lw_p58, List.forall_mem_cons.mpr ⟨lw_p59, List.forall_mem_cons.mpr ⟨lw_p60, List.forall_mem_cons.mpr ⟨lw_p61, List.forall_mem_cons.mpr ⟨lw_p62, List.forall_mem_cons.mpr ⟨lw_p63, fun _ h => absurd h List.not_mem_nil⟩⟩⟩⟩⟩⟩⟩⟩⟩⟩⟩⟩⟩⟩⟩⟩
theorem lw_p64 : lw_okq (⟨"OwnChairModel", "number", "(II)I"⟩, 80) := ⟨⟨by decide +kernel, by decide +kernel⟩, List.mem_of_getElem? (i := 1137) (by decide +kernel), List.mem_of_getElem? (i := 1489) (by decide +kernel), List.mem_of_getElem? (i := 1490) (by decide +kernel)⟩
theorem lw_p65 : lw_okq (⟨"OwnChairModel", "waying", "()V"⟩, 80) := ⟨⟨by decide +kernel, by decide +kernel⟩, List.mem_of_getElem? (i := 1137) (by decide +kernel), List.mem_of_getElem? (i := 1496) (by decide +kernel), List.mem_of_getElem? (i := 1497) (by decide +kernel)⟩
theorem lw_p66 : lw_okq (⟨"OwnChairModel", "asked", "(I)I"⟩, 80) := ⟨⟨by decide +kernel, by decide +kernel⟩, List.mem_of_getElem? (i := 1137) (by decide +kernel), List.mem_of_getElem? (i := 1500) (by decide +kernel), List.mem_of_getElem? (i := 1501) (by decide +kernel)⟩
theorem lw_p67 : lw_okq (⟨"OwnChairModel", "looked", "(I)I"⟩, 80) := ⟨⟨by decide +kernel, by decide +kernel⟩, List.mem_of_getElem? (i := 1137) (by decide +kernel), List.mem_of_getElem? (i := 1504) (by decide +kernel), List.mem_of_getElem? (i := 1505) (by decide +kernel)⟩
theorem lw_p68 : lw_okq (⟨"OwnChairModel", "personing", "()V"⟩, 80) := ⟨⟨by decide +kernel, by decide +kernel⟩, List.mem_of_getElem? (i := 1137) (by decide +kernel), List.mem_of_getElem? (i := 1508) (by decide +kernel), List.mem_of_getElem? (i := 1509) (by decide +kernel)⟩
theorem lw_p69 : lw_okq (⟨"OwnChairModel", "toldIn", "(I)I"⟩, 80) := ⟨⟨by decide +kernel, by decide +kernel⟩, List.mem_of_getElem? (i := 1137) (by decide +kernel), List.mem_of_getElem? (i := 1512) (by decide +kernel), List.mem_of_getElem? (i := 1513) (by decide +kernel)⟩
theorem lw_p70 : lw_okq (⟨"OwnChairModel", "joining", "()V"⟩, 80) := ⟨⟨by decide +kernel, by decide +kernel⟩, List.mem_of_getElem? (i := 1137) (by decide +kernel), List.mem_of_getElem? (i := 1516) (by decide +kernel), List.mem_of_getElem? (i := 1517) (by decide +kernel)⟩
theorem lw_p71 : lw_okq (⟨"OwnChairModel", "unjoined", "(I)I"⟩, 80) := ⟨⟨by decide +kernel, by decide +kernel⟩, List.mem_of_getElem? (i := 1137) (by decide +kernel), List.mem_of_getElem? (i := 1520) (by decide +kernel), List.mem_of_getElem? (i := 1521) (by decide +kernel)⟩
theorem lw_p72 : lw_okq (⟨"OwnChairModel", "slowing", "()V"⟩, 80) := ⟨⟨by decide +kernel, by decide +kernel⟩, List.mem_of_getElem? (i := 1137) (by decide +kernel), List.mem_of_getElem? (i := 1524) (by decide +kernel), List.mem_of_getElem? (i := 1525) (by decide +kernel)⟩
theorem lw_p73 : lw_okq (⟨"OwnChairModel", "reads", "(Z)V"⟩, 80) := ⟨⟨by decide +kernel, by decide +kernel⟩, List.mem_of_getElem? (i := 1137) (by decide +kernel), List.mem_of_getElem? (i := 1528) (by decide +kernel), List.mem_of_getElem? (i := 1529) (by decide +kernel)⟩
theorem lw_p74 : lw_okq (⟨"OwnChairModel", "pushes", "(I)V"⟩, 80) := ⟨⟨by decide +kernel, by decide +kernel⟩, List.mem_of_getElem? (i := 1137) (by decide +kernel), List.mem_of_getElem? (i := 1532) (by decide +kernel), List.mem_of_getElem? (i := 1533) (by decide +kernel)⟩
theorem lw_p75 : lw_okq (⟨"OwnChairModel", "operand", "()Z"⟩, 80) := ⟨⟨by decide +kernel, by decide +kernel⟩, List.mem_of_getElem? (i := 1137) (by decide +kernel), List.mem_of_getElem? (i := 1536) (by decide +kernel), List.mem_of_getElem? (i := 1537) (by decide +kernel)⟩
theorem lw_p76 : lw_okq (⟨"OwnChairModel", "holdsBack", "(I)V"⟩, 80) := ⟨⟨by decide +kernel, by decide +kernel⟩, List.mem_of_getElem? (i := 1137) (by decide +kernel), List.mem_of_getElem? (i := 1543) (by decide +kernel), List.mem_of_getElem? (i := 1544) (by decide +kernel)⟩
theorem lw_p77 : lw_okq (⟨"OwnChairModel", "isSign", "(I)Z"⟩, 80) := ⟨⟨by decide +kernel, by decide +kernel⟩, List.mem_of_getElem? (i := 1137) (by decide +kernel), List.mem_of_getElem? (i := 1547) (by decide +kernel), List.mem_of_getElem? (i := 1548) (by decide +kernel)⟩
theorem lw_p78 : lw_okq (⟨"OwnChairModel", "opens", "(I)V"⟩, 80) := ⟨⟨by decide +kernel, by decide +kernel⟩, List.mem_of_getElem? (i := 1137) (by decide +kernel), List.mem_of_getElem? (i := 1551) (by decide +kernel), List.mem_of_getElem? (i := 1552) (by decide +kernel)⟩
theorem lw_p79 : lw_okq (⟨"OwnChairModel", "add", "(II)V"⟩, 80) := ⟨⟨by decide +kernel, by decide +kernel⟩, List.mem_of_getElem? (i := 1137) (by decide +kernel), List.mem_of_getElem? (i := 1555) (by decide +kernel), List.mem_of_getElem? (i := 1556) (by decide +kernel)⟩
def lw_privs_5 : List (MethodName × Nat) := [(⟨"OwnChairModel", "number", "(II)I"⟩, 80), (⟨"OwnChairModel", "waying", "()V"⟩, 80), (⟨"OwnChairModel", "asked", "(I)I"⟩, 80), (⟨"OwnChairModel", "looked", "(I)I"⟩, 80), (⟨"OwnChairModel", "personing", "()V"⟩, 80), (⟨"OwnChairModel", "toldIn", "(I)I"⟩, 80), (⟨"OwnChairModel", "joining", "()V"⟩, 80), (⟨"OwnChairModel", "unjoined", "(I)I"⟩, 80), (⟨"OwnChairModel", "slowing", "()V"⟩, 80), (⟨"OwnChairModel", "reads", "(Z)V"⟩, 80), (⟨"OwnChairModel", "pushes", "(I)V"⟩, 80), (⟨"OwnChairModel", "operand", "()Z"⟩, 80), (⟨"OwnChairModel", "holdsBack", "(I)V"⟩, 80), (⟨"OwnChairModel", "isSign", "(I)Z"⟩, 80), (⟨"OwnChairModel", "opens", "(I)V"⟩, 80), (⟨"OwnChairModel", "add", "(II)V"⟩, 80)]
theorem lw_r5 : ∀ q ∈ lw_privs_5, lw_okq q := List.forall_mem_cons.mpr ⟨lw_p64, List.forall_mem_cons.mpr ⟨lw_p65, List.forall_mem_cons.mpr ⟨lw_p66, List.forall_mem_cons.mpr ⟨lw_p67, List.forall_mem_cons.mpr ⟨lw_p68, List.forall_mem_cons.mpr ⟨lw_p69, List.forall_mem_cons.mpr ⟨lw_p70, List.forall_mem_cons.mpr ⟨lw_p71, List.forall_mem_cons.mpr ⟨lw_p72, List.forall_mem_cons.mpr ⟨lw_p73, List.forall_mem_cons.mpr ⟨lw_p74, List.forall_mem_cons.mpr ⟨lw_p75, List.forall_mem_cons.mpr ⟨lw_p76, List.forall_mem_cons.mpr ⟨lw_p77, List.forall_mem_cons.mpr ⟨lw_p78, List.forall_mem_cons.mpr ⟨lw_p79, fun _ h => absurd h List.not_mem_nil⟩⟩⟩⟩⟩⟩⟩⟩⟩⟩⟩⟩⟩⟩⟩⟩
theorem lw_p80 : lw_okq (⟨"OwnChairModel", "goesOn", "()Z"⟩, 80) := ⟨⟨by decide +kernel, by decide +kernel⟩, List.mem_of_getElem? (i := 1137) (by decide +kernel), List.mem_of_getElem? (i := 1559) (by decide +kernel), List.mem_of_getElem? (i := 1560) (by decide +kernel)⟩
theorem lw_p81 : lw_okq (⟨"OwnChairModel", "joins", "(I)V"⟩, 80) := ⟨⟨by decide +kernel, by decide +kernel⟩, List.mem_of_getElem? (i := 1137) (by decide +kernel), List.mem_of_getElem? (i := 1563) (by decide +kernel), List.mem_of_getElem? (i := 1564) (by decide +kernel)⟩
theorem lw_p82 : lw_okq (⟨"OwnChairModel", "standingSum", "()V"⟩, 80) := ⟨⟨by decide +kernel, by decide +kernel⟩, List.mem_of_getElem? (i := 1137) (by decide +kernel), List.mem_of_getElem? (i := 1570) (by decide +kernel), List.mem_of_getElem? (i := 1571) (by decide +kernel)⟩
theorem lw_p83 : lw_okq (⟨"OwnChairModel", "breaks", "()V"⟩, 80) := ⟨⟨by decide +kernel, by decide +kernel⟩, List.mem_of_getElem? (i := 1137) (by decide +kernel), List.mem_of_getElem? (i := 1574) (by decide +kernel), List.mem_of_getElem? (i := 1575) (by decide +kernel)⟩
theorem lw_p84 : lw_okq (⟨"OwnChairModel", "mending", "()V"⟩, 80) := ⟨⟨by decide +kernel, by decide +kernel⟩, List.mem_of_getElem? (i := 1137) (by decide +kernel), List.mem_of_getElem? (i := 1578) (by decide +kernel), List.mem_of_getElem? (i := 1579) (by decide +kernel)⟩
theorem lw_p85 : lw_okq (⟨"OwnChairModel", "finishes", "(I)V"⟩, 80) := ⟨⟨by decide +kernel, by decide +kernel⟩, List.mem_of_getElem? (i := 1137) (by decide +kernel), List.mem_of_getElem? (i := 1582) (by decide +kernel), List.mem_of_getElem? (i := 1583) (by decide +kernel)⟩
theorem lw_p86 : lw_okq (⟨"OwnChairModel", "must", "(I)V"⟩, 80) := ⟨⟨by decide +kernel, by decide +kernel⟩, List.mem_of_getElem? (i := 1137) (by decide +kernel), List.mem_of_getElem? (i := 1586) (by decide +kernel), List.mem_of_getElem? (i := 1587) (by decide +kernel)⟩
theorem lw_p87 : lw_okq (⟨"OwnChairModel", "begin", "()V"⟩, 80) := ⟨⟨by decide +kernel, by decide +kernel⟩, List.mem_of_getElem? (i := 1137) (by decide +kernel), List.mem_of_getElem? (i := 1590) (by decide +kernel), List.mem_of_getElem? (i := 1591) (by decide +kernel)⟩
theorem lw_p88 : lw_okq (⟨"OwnChairModel", "ring", "(I)I"⟩, 80) := ⟨⟨by decide +kernel, by decide +kernel⟩, List.mem_of_getElem? (i := 1137) (by decide +kernel), List.mem_of_getElem? (i := 1606) (by decide +kernel), List.mem_of_getElem? (i := 1607) (by decide +kernel)⟩
theorem lw_p89 : lw_okq (⟨"OwnChairModel", "copies", "(II)V"⟩, 80) := ⟨⟨by decide +kernel, by decide +kernel⟩, List.mem_of_getElem? (i := 1137) (by decide +kernel), List.mem_of_getElem? (i := 1610) (by decide +kernel), List.mem_of_getElem? (i := 1611) (by decide +kernel)⟩
theorem lw_p90 : lw_okq (⟨"OwnChairModel", "isSitting", "(I)Z"⟩, 80) := ⟨⟨by decide +kernel, by decide +kernel⟩, List.mem_of_getElem? (i := 1137) (by decide +kernel), List.mem_of_getElem? (i := 1618) (by decide +kernel), List.mem_of_getElem? (i := 1619) (by decide +kernel)⟩
theorem lw_p91 : lw_okq (⟨"OwnChairModel", "wouldSit", "(II)Z"⟩, 80) := ⟨⟨by decide +kernel, by decide +kernel⟩, List.mem_of_getElem? (i := 1137) (by decide +kernel), List.mem_of_getElem? (i := 1622) (by decide +kernel), List.mem_of_getElem? (i := 1623) (by decide +kernel)⟩
theorem lw_p92 : lw_okq (⟨"OwnChairModel", "joinedTo", "(I)I"⟩, 80) := ⟨⟨by decide +kernel, by decide +kernel⟩, List.mem_of_getElem? (i := 1137) (by decide +kernel), List.mem_of_getElem? (i := 1626) (by decide +kernel), List.mem_of_getElem? (i := 1627) (by decide +kernel)⟩
theorem lw_p93 : lw_okq (⟨"OwnChairModel", "isRoom", "(I)Z"⟩, 80) := ⟨⟨by decide +kernel, by decide +kernel⟩, List.mem_of_getElem? (i := 1137) (by decide +kernel), List.mem_of_getElem? (i := 1639) (by decide +kernel), List.mem_of_getElem? (i := 1640) (by decide +kernel)⟩
theorem lw_p94 : lw_okq (⟨"OwnChairModel", "wideIn", "(II)I"⟩, 80) := ⟨⟨by decide +kernel, by decide +kernel⟩, List.mem_of_getElem? (i := 1137) (by decide +kernel), List.mem_of_getElem? (i := 1643) (by decide +kernel), List.mem_of_getElem? (i := 1644) (by decide +kernel)⟩
theorem lw_p95 : lw_okq (⟨"OwnChairModel", "wideOf", "(I)I"⟩, 80) := ⟨⟨by decide +kernel, by decide +kernel⟩, List.mem_of_getElem? (i := 1137) (by decide +kernel), List.mem_of_getElem? (i := 1647) (by decide +kernel), List.mem_of_getElem? (i := 1648) (by decide +kernel)⟩
def lw_privs_6 : List (MethodName × Nat) := [(⟨"OwnChairModel", "goesOn", "()Z"⟩, 80), (⟨"OwnChairModel", "joins", "(I)V"⟩, 80), (⟨"OwnChairModel", "standingSum", "()V"⟩, 80), (⟨"OwnChairModel", "breaks", "()V"⟩, 80), (⟨"OwnChairModel", "mending", "()V"⟩, 80), (⟨"OwnChairModel", "finishes", "(I)V"⟩, 80), (⟨"OwnChairModel", "must", "(I)V"⟩, 80), (⟨"OwnChairModel", "begin", "()V"⟩, 80), (⟨"OwnChairModel", "ring", "(I)I"⟩, 80), (⟨"OwnChairModel", "copies", "(II)V"⟩, 80), (⟨"OwnChairModel", "isSitting", "(I)Z"⟩, 80), (⟨"OwnChairModel", "wouldSit", "(II)Z"⟩, 80), (⟨"OwnChairModel", "joinedTo", "(I)I"⟩, 80), (⟨"OwnChairModel", "isRoom", "(I)Z"⟩, 80), (⟨"OwnChairModel", "wideIn", "(II)I"⟩, 80), (⟨"OwnChairModel", "wideOf", "(I)I"⟩, 80)]
theorem lw_r6 : ∀ q ∈ lw_privs_6, lw_okq q := List.forall_mem_cons.mpr ⟨lw_p80, List.forall_mem_cons.mpr ⟨lw_p81, List.forall_mem_cons.mpr ⟨lw_p82, List.forall_mem_cons.mpr ⟨lw_p83, List.forall_mem_cons.mpr ⟨lw_p84, List.forall_mem_cons.mpr ⟨lw_p85, List.forall_mem_cons.mpr ⟨lw_p86, List.forall_mem_cons.mpr ⟨lw_p87, List.forall_mem_cons.mpr ⟨lw_p88, List.forall_mem_cons.mpr ⟨lw_p89, List.forall_mem_cons.mpr ⟨lw_p90, List.forall_mem_cons.mpr ⟨lw_p91, List.forall_mem_cons.mpr ⟨lw_p92, List.forall_mem_cons.mpr ⟨lw_p93, List.forall_mem_cons.mpr ⟨lw_p94, List.forall_mem_cons.mpr ⟨lw_p95, fun _ h => absurd h List.not_mem_nil⟩⟩⟩⟩⟩⟩⟩⟩⟩⟩⟩⟩⟩⟩⟩⟩
theorem lw_p96 : lw_okq (⟨"OwnChairModel", "wayOf", "(II)I"⟩, 80) := ⟨⟨by decide +kernel, by decide +kernel⟩, List.mem_of_getElem? (i := 1137) (by decide +kernel), List.mem_of_getElem? (i := 1655) (by decide +kernel), List.mem_of_getElem? (i := 1656) (by decide +kernel)⟩
theorem lw_p97 : lw_okq (⟨"OwnChairModel", "isPerson", "(I)Z"⟩, 80) := ⟨⟨by decide +kernel, by decide +kernel⟩, List.mem_of_getElem? (i := 1137) (by decide +kernel), List.mem_of_getElem? (i := 1663) (by decide +kernel), List.mem_of_getElem? (i := 1664) (by decide +kernel)⟩
theorem lw_p98 : lw_okq (⟨"OwnChairModel", "doorWide", "(I)I"⟩, 80) := ⟨⟨by decide +kernel, by decide +kernel⟩, List.mem_of_getElem? (i := 1137) (by decide +kernel), List.mem_of_getElem? (i := 1667) (by decide +kernel), List.mem_of_getElem? (i := 1668) (by decide +kernel)⟩
theorem lw_p99 : lw_okq (⟨"OwnChairModel", "isFitting", "(II)Z"⟩, 80) := ⟨⟨by decide +kernel, by decide +kernel⟩, List.mem_of_getElem? (i := 1137) (by decide +kernel), List.mem_of_getElem? (i := 1675) (by decide +kernel), List.mem_of_getElem? (i := 1676) (by decide +kernel)⟩
theorem lw_p100 : lw_okq (⟨"OwnChairModel", "isThrough", "(II)Z"⟩, 80) := ⟨⟨by decide +kernel, by decide +kernel⟩, List.mem_of_getElem? (i := 1137) (by decide +kernel), List.mem_of_getElem? (i := 1679) (by decide +kernel), List.mem_of_getElem? (i := 1680) (by decide +kernel)⟩
theorem lw_p101 : lw_okq (⟨"OwnChairModel", "canGo", "(III)Z"⟩, 80) := ⟨⟨by decide +kernel, by decide +kernel⟩, List.mem_of_getElem? (i := 1137) (by decide +kernel), List.mem_of_getElem? (i := 1687) (by decide +kernel), List.mem_of_getElem? (i := 1688) (by decide +kernel)⟩
theorem lw_p102 : lw_okq (⟨"OwnChairModel", "canTake", "(III)Z"⟩, 80) := ⟨⟨by decide +kernel, by decide +kernel⟩, List.mem_of_getElem? (i := 1137) (by decide +kernel), List.mem_of_getElem? (i := 1691) (by decide +kernel), List.mem_of_getElem? (i := 1692) (by decide +kernel)⟩
theorem lw_p103 : lw_okq (⟨"OwnChairModel", "minutesOf", "(III)I"⟩, 80) := ⟨⟨by decide +kernel, by decide +kernel⟩, List.mem_of_getElem? (i := 1137) (by decide +kernel), List.mem_of_getElem? (i := 1695) (by decide +kernel), List.mem_of_getElem? (i := 1696) (by decide +kernel)⟩
theorem lw_p104 : lw_okq (⟨"OwnChairModel", "carrying", "(III)I"⟩, 80) := ⟨⟨by decide +kernel, by decide +kernel⟩, List.mem_of_getElem? (i := 1137) (by decide +kernel), List.mem_of_getElem? (i := 1699) (by decide +kernel), List.mem_of_getElem? (i := 1700) (by decide +kernel)⟩
theorem lw_p105 : lw_okq (⟨"OwnChairModel", "reckons", "(II)J"⟩, 80) := ⟨⟨by decide +kernel, by decide +kernel⟩, List.mem_of_getElem? (i := 1137) (by decide +kernel), List.mem_of_getElem? (i := 1703) (by decide +kernel), List.mem_of_getElem? (i := 1704) (by decide +kernel)⟩
theorem lw_p106 : lw_okq (⟨"OwnChairModel", "part", "(II)J"⟩, 80) := ⟨⟨by decide +kernel, by decide +kernel⟩, List.mem_of_getElem? (i := 1137) (by decide +kernel), List.mem_of_getElem? (i := 1707) (by decide +kernel), List.mem_of_getElem? (i := 1708) (by decide +kernel)⟩
theorem lw_p107 : lw_okq (⟨"OwnChairModel", "keeps", "()V"⟩, 80) := ⟨⟨by decide +kernel, by decide +kernel⟩, List.mem_of_getElem? (i := 1137) (by decide +kernel), List.mem_of_getElem? (i := 1730) (by decide +kernel), List.mem_of_getElem? (i := 1731) (by decide +kernel)⟩
theorem lw_p108 : lw_okq (⟨"OwnChairModel", "goes", "(III)V"⟩, 80) := ⟨⟨by decide +kernel, by decide +kernel⟩, List.mem_of_getElem? (i := 1137) (by decide +kernel), List.mem_of_getElem? (i := 1734) (by decide +kernel), List.mem_of_getElem? (i := 1735) (by decide +kernel)⟩
theorem lw_p109 : lw_okq (⟨"OwnChairModel", "isLater", "(II)V"⟩, 80) := ⟨⟨by decide +kernel, by decide +kernel⟩, List.mem_of_getElem? (i := 1137) (by decide +kernel), List.mem_of_getElem? (i := 1738) (by decide +kernel), List.mem_of_getElem? (i := 1739) (by decide +kernel)⟩
theorem lw_p110 : lw_okq (⟨"OwnChairModel", "writesDown", "(IIII)V"⟩, 80) := ⟨⟨by decide +kernel, by decide +kernel⟩, List.mem_of_getElem? (i := 1137) (by decide +kernel), List.mem_of_getElem? (i := 1743) (by decide +kernel), List.mem_of_getElem? (i := 1744) (by decide +kernel)⟩
theorem lw_p111 : lw_okq (⟨"OwnChairModel", "draw", "(I)I"⟩, 80) := ⟨⟨by decide +kernel, by decide +kernel⟩, List.mem_of_getElem? (i := 1137) (by decide +kernel), List.mem_of_getElem? (i := 1747) (by decide +kernel), List.mem_of_getElem? (i := 1748) (by decide +kernel)⟩
def lw_privs_7 : List (MethodName × Nat) := [(⟨"OwnChairModel", "wayOf", "(II)I"⟩, 80), (⟨"OwnChairModel", "isPerson", "(I)Z"⟩, 80), (⟨"OwnChairModel", "doorWide", "(I)I"⟩, 80), (⟨"OwnChairModel", "isFitting", "(II)Z"⟩, 80), (⟨"OwnChairModel", "isThrough", "(II)Z"⟩, 80), (⟨"OwnChairModel", "canGo", "(III)Z"⟩, 80), (⟨"OwnChairModel", "canTake", "(III)Z"⟩, 80), (⟨"OwnChairModel", "minutesOf", "(III)I"⟩, 80), (⟨"OwnChairModel", "carrying", "(III)I"⟩, 80), (⟨"OwnChairModel", "reckons", "(II)J"⟩, 80), (⟨"OwnChairModel", "part", "(II)J"⟩, 80), (⟨"OwnChairModel", "keeps", "()V"⟩, 80), (⟨"OwnChairModel", "goes", "(III)V"⟩, 80), (⟨"OwnChairModel", "isLater", "(II)V"⟩, 80), (⟨"OwnChairModel", "writesDown", "(IIII)V"⟩, 80), (⟨"OwnChairModel", "draw", "(I)I"⟩, 80)]
theorem lw_r7 : ∀ q ∈ lw_privs_7, lw_okq q := List.forall_mem_cons.mpr ⟨lw_p96, List.forall_mem_cons.mpr ⟨lw_p97, List.forall_mem_cons.mpr ⟨lw_p98, List.forall_mem_cons.mpr ⟨lw_p99, List.forall_mem_cons.mpr ⟨lw_p100, List.forall_mem_cons.mpr ⟨lw_p101, List.forall_mem_cons.mpr ⟨lw_p102, List.forall_mem_cons.mpr ⟨lw_p103, List.forall_mem_cons.mpr ⟨lw_p104, List.forall_mem_cons.mpr ⟨lw_p105, List.forall_mem_cons.mpr ⟨lw_p106, List.forall_mem_cons.mpr ⟨lw_p107, List.forall_mem_cons.mpr ⟨lw_p108, List.forall_mem_cons.mpr ⟨lw_p109, List.forall_mem_cons.mpr ⟨lw_p110, List.forall_mem_cons.mpr ⟨lw_p111, fun _ h => absurd h List.not_mem_nil⟩⟩⟩⟩⟩⟩⟩⟩⟩⟩⟩⟩⟩⟩⟩⟩
theorem lw_p112 : lw_okq (⟨"OwnChairModel", "waits", "(II)V"⟩, 80) := ⟨⟨by decide +kernel, by decide +kernel⟩, List.mem_of_getElem? (i := 1137) (by decide +kernel), List.mem_of_getElem? (i := 1759) (by decide +kernel), List.mem_of_getElem? (i := 1760) (by decide +kernel)⟩
theorem lw_p113 : lw_okq (⟨"OwnChairModel", "aching", "(II)I"⟩, 80) := ⟨⟨by decide +kernel, by decide +kernel⟩, List.mem_of_getElem? (i := 1137) (by decide +kernel), List.mem_of_getElem? (i := 1763) (by decide +kernel), List.mem_of_getElem? (i := 1764) (by decide +kernel)⟩
theorem lw_p114 : lw_okq (⟨"OwnChairModel", "dayOf", "(I)Z"⟩, 80) := ⟨⟨by decide +kernel, by decide +kernel⟩, List.mem_of_getElem? (i := 1137) (by decide +kernel), List.mem_of_getElem? (i := 1775) (by decide +kernel), List.mem_of_getElem? (i := 1776) (by decide +kernel)⟩
theorem lw_p115 : lw_okq (⟨"OwnChairModel", "nthWay", "(II)I"⟩, 80) := ⟨⟨by decide +kernel, by decide +kernel⟩, List.mem_of_getElem? (i := 1137) (by decide +kernel), List.mem_of_getElem? (i := 1779) (by decide +kernel), List.mem_of_getElem? (i := 1780) (by decide +kernel)⟩
theorem lw_p116 : lw_okq (⟨"OwnChairModel", "routing", "(IIIIZ)I"⟩, 80) := ⟨⟨by decide +kernel, by decide +kernel⟩, List.mem_of_getElem? (i := 1137) (by decide +kernel), List.mem_of_getElem? (i := 1795) (by decide +kernel), List.mem_of_getElem? (i := 1796) (by decide +kernel)⟩
theorem lw_p117 : lw_okq (⟨"OwnChairModel", "steps", "(II)V"⟩, 80) := ⟨⟨by decide +kernel, by decide +kernel⟩, List.mem_of_getElem? (i := 1137) (by decide +kernel), List.mem_of_getElem? (i := 1799) (by decide +kernel), List.mem_of_getElem? (i := 1800) (by decide +kernel)⟩
theorem lw_p118 : lw_okq (⟨"OwnChairModel", "rests", "(I)V"⟩, 80) := ⟨⟨by decide +kernel, by decide +kernel⟩, List.mem_of_getElem? (i := 1137) (by decide +kernel), List.mem_of_getElem? (i := 1804) (by decide +kernel), List.mem_of_getElem? (i := 1805) (by decide +kernel)⟩
theorem lw_p119 : lw_okq (⟨"OwnChairModel", "nextOf", "(I)I"⟩, 80) := ⟨⟨by decide +kernel, by decide +kernel⟩, List.mem_of_getElem? (i := 1137) (by decide +kernel), List.mem_of_getElem? (i := 1808) (by decide +kernel), List.mem_of_getElem? (i := 1809) (by decide +kernel)⟩
theorem lw_p120 : lw_okq (⟨"OwnChairModel", "isErrand", "(II)Z"⟩, 80) := ⟨⟨by decide +kernel, by decide +kernel⟩, List.mem_of_getElem? (i := 1137) (by decide +kernel), List.mem_of_getElem? (i := 1820) (by decide +kernel), List.mem_of_getElem? (i := 1821) (by decide +kernel)⟩
theorem lw_p121 : lw_okq (⟨"OwnChairModel", "errandBy", "(III)I"⟩, 80) := ⟨⟨by decide +kernel, by decide +kernel⟩, List.mem_of_getElem? (i := 1137) (by decide +kernel), List.mem_of_getElem? (i := 1824) (by decide +kernel), List.mem_of_getElem? (i := 1825) (by decide +kernel)⟩
theorem lw_p122 : lw_okq (⟨"OwnChairModel", "canSit", "(II)Z"⟩, 80) := ⟨⟨by decide +kernel, by decide +kernel⟩, List.mem_of_getElem? (i := 1137) (by decide +kernel), List.mem_of_getElem? (i := 1842) (by decide +kernel), List.mem_of_getElem? (i := 1843) (by decide +kernel)⟩
theorem lw_p123 : lw_okq (⟨"OwnChairModel", "isStanding", "(I)Z"⟩, 80) := ⟨⟨by decide +kernel, by decide +kernel⟩, List.mem_of_getElem? (i := 1137) (by decide +kernel), List.mem_of_getElem? (i := 1850) (by decide +kernel), List.mem_of_getElem? (i := 1851) (by decide +kernel)⟩
theorem lw_p124 : lw_okq (⟨"OwnChairModel", "waysWith", "(II)I"⟩, 80) := ⟨⟨by decide +kernel, by decide +kernel⟩, List.mem_of_getElem? (i := 1137) (by decide +kernel), List.mem_of_getElem? (i := 1854) (by decide +kernel), List.mem_of_getElem? (i := 1855) (by decide +kernel)⟩
theorem lw_p125 : lw_okq (⟨"OwnChairModel", "rowOf", "(I)I"⟩, 80) := ⟨⟨by decide +kernel, by decide +kernel⟩, List.mem_of_getElem? (i := 1137) (by decide +kernel), List.mem_of_getElem? (i := 1858) (by decide +kernel), List.mem_of_getElem? (i := 1859) (by decide +kernel)⟩
theorem lw_p126 : lw_okq (⟨"OwnChairModel", "writes", "(I)V"⟩, 80) := ⟨⟨by decide +kernel, by decide +kernel⟩, List.mem_of_getElem? (i := 1137) (by decide +kernel), List.mem_of_getElem? (i := 1870) (by decide +kernel), List.mem_of_getElem? (i := 1871) (by decide +kernel)⟩
theorem lw_p127 : lw_okq (⟨"OwnChairModel", "writesThree", "(I)V"⟩, 80) := ⟨⟨by decide +kernel, by decide +kernel⟩, List.mem_of_getElem? (i := 1137) (by decide +kernel), List.mem_of_getElem? (i := 1874) (by decide +kernel), List.mem_of_getElem? (i := 1875) (by decide +kernel)⟩
def lw_privs_8 : List (MethodName × Nat) := [(⟨"OwnChairModel", "waits", "(II)V"⟩, 80), (⟨"OwnChairModel", "aching", "(II)I"⟩, 80), (⟨"OwnChairModel", "dayOf", "(I)Z"⟩, 80), (⟨"OwnChairModel", "nthWay", "(II)I"⟩, 80), (⟨"OwnChairModel", "routing", "(IIIIZ)I"⟩, 80), (⟨"OwnChairModel", "steps", "(II)V"⟩, 80), (⟨"OwnChairModel", "rests", "(I)V"⟩, 80), (⟨"OwnChairModel", "nextOf", "(I)I"⟩, 80), (⟨"OwnChairModel", "isErrand", "(II)Z"⟩, 80), (⟨"OwnChairModel", "errandBy", "(III)I"⟩, 80), (⟨"OwnChairModel", "canSit", "(II)Z"⟩, 80), (⟨"OwnChairModel", "isStanding", "(I)Z"⟩, 80), (⟨"OwnChairModel", "waysWith", "(II)I"⟩, 80), (⟨"OwnChairModel", "rowOf", "(I)I"⟩, 80), (⟨"OwnChairModel", "writes", "(I)V"⟩, 80), (⟨"OwnChairModel", "writesThree", "(I)V"⟩, 80)]
theorem lw_r8 : ∀ q ∈ lw_privs_8, lw_okq q := List.forall_mem_cons.mpr ⟨lw_p112, List.forall_mem_cons.mpr ⟨lw_p113, List.forall_mem_cons.mpr ⟨lw_p114, List.forall_mem_cons.mpr ⟨lw_p115, List.forall_mem_cons.mpr ⟨lw_p116, List.forall_mem_cons.mpr ⟨lw_p117, List.forall_mem_cons.mpr ⟨lw_p118, List.forall_mem_cons.mpr ⟨lw_p119, List.forall_mem_cons.mpr ⟨lw_p120, List.forall_mem_cons.mpr ⟨lw_p121, List.forall_mem_cons.mpr ⟨lw_p122, List.forall_mem_cons.mpr ⟨lw_p123, List.forall_mem_cons.mpr ⟨lw_p124, List.forall_mem_cons.mpr ⟨lw_p125, List.forall_mem_cons.mpr ⟨lw_p126, List.forall_mem_cons.mpr ⟨lw_p127, fun _ h => absurd h List.not_mem_nil⟩⟩⟩⟩⟩⟩⟩⟩⟩⟩⟩⟩⟩⟩⟩⟩
theorem lw_p128 : lw_okq (⟨"OwnChairModel", "comesOn", "(I)Z"⟩, 80) := ⟨⟨by decide +kernel, by decide +kernel⟩, List.mem_of_getElem? (i := 1137) (by decide +kernel), List.mem_of_getElem? (i := 1886) (by decide +kernel), List.mem_of_getElem? (i := 1887) (by decide +kernel)⟩
theorem lw_p129 : lw_okq (⟨"OwnChairModel", "personOn", "(II)Z"⟩, 80) := ⟨⟨by decide +kernel, by decide +kernel⟩, List.mem_of_getElem? (i := 1137) (by decide +kernel), List.mem_of_getElem? (i := 1890) (by decide +kernel), List.mem_of_getElem? (i := 1891) (by decide +kernel)⟩
theorem lw_p130 : lw_okq (⟨"OwnChairModel", "threeBytes", "(I)I"⟩, 80) := ⟨⟨by decide +kernel, by decide +kernel⟩, List.mem_of_getElem? (i := 1137) (by decide +kernel), List.mem_of_getElem? (i := 1894) (by decide +kernel), List.mem_of_getElem? (i := 1895) (by decide +kernel)⟩
def lw_privs_9 : List (MethodName × Nat) := [(⟨"OwnChairModel", "comesOn", "(I)Z"⟩, 80), (⟨"OwnChairModel", "personOn", "(II)Z"⟩, 80), (⟨"OwnChairModel", "threeBytes", "(I)I"⟩, 80)]
theorem lw_r9 : ∀ q ∈ lw_privs_9, lw_okq q := List.forall_mem_cons.mpr ⟨lw_p128, List.forall_mem_cons.mpr ⟨lw_p129, List.forall_mem_cons.mpr ⟨lw_p130, fun _ h => absurd h List.not_mem_nil⟩⟩⟩
def lw_privs : List (MethodName × Nat) := lw_privs_1 ++ (lw_privs_2 ++ (lw_privs_3 ++ (lw_privs_4 ++ (lw_privs_5 ++ (lw_privs_6 ++ (lw_privs_7 ++ (lw_privs_8 ++ (lw_privs_9))))))))
def lw_tbl : List Cond := k2_sels lw_privs ++ tables_1
theorem lw_privs_ok : ∀ q ∈ lw_privs, lw_okq q := by
  show ∀ q ∈ lw_privs_1 ++ (lw_privs_2 ++ (lw_privs_3 ++ (lw_privs_4 ++ (lw_privs_5 ++ (lw_privs_6 ++ (lw_privs_7 ++ (lw_privs_8 ++ (lw_privs_9)))))))), lw_okq q
  exact List.forall_mem_append.mpr ⟨lw_r1, List.forall_mem_append.mpr ⟨lw_r2, List.forall_mem_append.mpr ⟨lw_r3, List.forall_mem_append.mpr ⟨lw_r4, List.forall_mem_append.mpr ⟨lw_r5, List.forall_mem_append.mpr ⟨lw_r6, List.forall_mem_append.mpr ⟨lw_r7, List.forall_mem_append.mpr ⟨lw_r8, lw_r9⟩⟩⟩⟩⟩⟩⟩⟩
end
section
/-! An executor of bytecode over abstract values. A value: tag (0 int, 1 long, 2 null, 3 a cell by its number, 4 the script), a symbol or none, a number. -/
abbrev xV : Type := Nat × Option Nat × Int
/-- an array: element type (0 int, 1 long, 2 boolean), length, bounds of the places that aren't listed, listed places -/
abbrev xA : Type := Nat × Nat × Int × Int × List (Nat × xV)
abbrev xC : Type := xA ⊕ (Nat × List xV)
abbrev xE : Type := List (Int × Int)
/-- a frame: method, pc, locals, stack, cells and slots used -/
abbrev xF : Type := Nat × Nat × List (Nat × xV) × List xV × Nat × Nat
abbrev xS : Type := List xF × List xC × xE
def x_ext {α : Type} (a b : List α) : Prop := ∃ t, b = a ++ t
theorem x_ext.rf {α : Type} (a : List α) : x_ext a a := ⟨[], by simp⟩
theorem x_ext.tr {α : Type} {a b c : List α} (h : x_ext a b) (g : x_ext b c) : x_ext a c := by
  obtain ⟨t, rfl⟩ := h
  obtain ⟨u, rfl⟩ := g
  exact ⟨t ++ u, by rw [List.append_assoc]⟩
theorem x_ext.get {α : Type} {a b : List α} (h : x_ext a b) {i : Nat} {q : α} (e : a[i]? = some q) : b[i]? = some q := by
  obtain ⟨t, rfl⟩ := h
  rw [List.getElem?_append_left (List.getElem?_eq_some_iff.mp e).1]
  exact e
theorem x_ext.app {α : Type} (a t : List α) : x_ext a (a ++ t) := ⟨t, rfl⟩
def x_ev (ρ : List Int) (b : Option Nat) (c r : Int) : Prop := match b with
  | none => r = c
  | some i => ∃ q, ρ[i]? = some q ∧ r = q + c
theorem x_ev.mono {ρ ρ' : List Int} {b : Option Nat} {c r : Int} (h : x_ext ρ ρ') (g : x_ev ρ b c r) : x_ev ρ' b c r := by
  cases b with
  | none => exact g
  | some i =>
    obtain ⟨q, h1, h2⟩ := g
    exact ⟨q, h.get h1, h2⟩
def x_val (ρ : List Int) (ad : List Nat) (sc : Nat) (v : xV) (x : Value) : Prop := match v.1 with
  | 0 => ∃ n : Int32, x = .int n ∧ x_ev ρ v.2.1 v.2.2 n.toInt
  | 1 => ∃ n : Int64, x = .long n ∧ x_ev ρ v.2.1 v.2.2 n.toInt
  | 2 => x = .null
  | 3 => ∃ a, x = .ref a ∧ ad[v.2.2.toNat]? = some a
  | _ => x = .ref sc
theorem x_val.mono {ρ ρ' : List Int} {ad ad' : List Nat} {sc : Nat} {v : xV} {x : Value} (h1 : x_ext ρ ρ') (h2 : x_ext ad ad') (h : x_val ρ ad sc v x) : x_val ρ' ad' sc v x := by
  obtain ⟨t, b, c⟩ := v
  match t, h with
  | 0, ⟨n, e, g⟩ => exact ⟨n, e, g.mono h1⟩
  | 1, ⟨n, e, g⟩ => exact ⟨n, e, g.mono h1⟩
  | 2, h => exact h
  | 3, ⟨a, e, g⟩ => exact ⟨a, e, h2.get g⟩
  | _ + 4, h => exact h
def x_vals (ρ : List Int) (ad : List Nat) (sc : Nat) : List xV → List Value → Prop
  | [], [] => True
  | v :: vs, x :: xs => x_val ρ ad sc v x ∧ x_vals ρ ad sc vs xs
  | _, _ => False
theorem x_vals.mono {ρ ρ' : List Int} {ad ad' : List Nat} {sc : Nat} (h1 : x_ext ρ ρ') (h2 : x_ext ad ad') : ∀ {vs : List xV} {xs : List Value}, x_vals ρ ad sc vs xs → x_vals ρ' ad' sc vs xs
  | [], [], _ => trivial
  | _ :: _, _ :: _, h => ⟨h.1.mono h1 h2, x_vals.mono h1 h2 h.2⟩
  | [], _ :: _, h => h.elim
  | _ :: _, [], h => h.elim
theorem x_vals.len {ρ : List Int} {ad : List Nat} {sc : Nat} : ∀ {vs : List xV} {xs : List Value}, x_vals ρ ad sc vs xs → vs.length = xs.length
  | [], [], _ => rfl
  | _ :: _, _ :: _, h => by simp [x_vals.len h.2]
  | [], _ :: _, h => h.elim
  | _ :: _, [], h => h.elim
theorem x_vals.nil {ρ : List Int} {ad : List Nat} {sc : Nat} {xs : List Value} (h : x_vals ρ ad sc [] xs) : xs = [] := by
  cases xs with
  | nil => rfl
  | cons _ _ => exact h.elim
theorem x_vals.cons {ρ : List Int} {ad : List Nat} {sc : Nat} {v : xV} {vs : List xV} {xs : List Value} (h : x_vals ρ ad sc (v :: vs) xs) : ∃ x ys, xs = x :: ys ∧ x_val ρ ad sc v x ∧ x_vals ρ ad sc vs ys := by
  cases xs with
  | nil => exact h.elim
  | cons x ys => exact ⟨x, ys, rfl, h.1, h.2⟩
theorem x_vals.get {ρ : List Int} {ad : List Nat} {sc : Nat} : ∀ {vs : List xV} {xs : List Value}, x_vals ρ ad sc vs xs → ∀ {k : Nat} {v : xV}, vs[k]? = some v → ∃ x, xs[k]? = some x ∧ x_val ρ ad sc v x
  | [], [], _, k, v, e => by simp at e
  | a :: vs, b :: xs, h, k, v, e => by
    cases k with
    | zero => simp at e; subst e; exact ⟨b, by simp, h.1⟩
    | succ k =>
      simp at e
      obtain ⟨x, h1, h2⟩ := x_vals.get h.2 e
      exact ⟨x, by simpa using h1, h2⟩
  | [], _ :: _, h, _, _, _ => h.elim
  | _ :: _, [], h, _, _, _ => h.elim
theorem x_vals.set {ρ : List Int} {ad : List Nat} {sc : Nat} : ∀ {vs : List xV} {xs : List Value}, x_vals ρ ad sc vs xs → ∀ {k : Nat} {v : xV} {x : Value}, x_val ρ ad sc v x → x_vals ρ ad sc (vs.set k v) (xs.set k x)
  | [], [], _, k, v, x, _ => by simp [x_vals]
  | a :: vs, b :: xs, h, k, v, x, g => by
    cases k with
    | zero => exact ⟨g, h.2⟩
    | succ k => exact ⟨h.1, x_vals.set h.2 g⟩
  | [], _ :: _, h, _, _, _, _ => h.elim
  | _ :: _, [], h, _, _, _, _ => h.elim
theorem x_vals.app {ρ : List Int} {ad : List Nat} {sc : Nat} : ∀ {vs ws : List xV} {xs ys : List Value}, x_vals ρ ad sc vs xs → x_vals ρ ad sc ws ys → x_vals ρ ad sc (vs ++ ws) (xs ++ ys)
  | [], _, [], _, _, g => g
  | _ :: _, _, _ :: _, _, h, g => ⟨h.1, x_vals.app h.2 g⟩
  | [], _, _ :: _, _, h, _ => h.elim
  | _ :: _, _, [], _, h, _ => h.elim
theorem x_vals.rev {ρ : List Int} {ad : List Nat} {sc : Nat} : ∀ {vs : List xV} {xs : List Value}, x_vals ρ ad sc vs xs → x_vals ρ ad sc vs.reverse xs.reverse
  | [], [], _ => trivial
  | v :: vs, x :: xs, h => by
    rw [List.reverse_cons, List.reverse_cons]
    exact x_vals.app (x_vals.rev h.2) ⟨h.1, trivial⟩
  | [], _ :: _, h => h.elim
  | _ :: _, [], h => h.elim
theorem x_vals.take {ρ : List Int} {ad : List Nat} {sc : Nat} : ∀ {vs : List xV} {xs : List Value} (n : Nat), x_vals ρ ad sc vs xs → x_vals ρ ad sc (vs.take n) (xs.take n)
  | _, _, 0, _ => trivial
  | [], [], _ + 1, _ => trivial
  | _ :: _, _ :: _, n + 1, h => ⟨h.1, x_vals.take n h.2⟩
  | [], _ :: _, _ + 1, h => h.elim
  | _ :: _, [], _ + 1, h => h.elim
theorem x_vals.drop {ρ : List Int} {ad : List Nat} {sc : Nat} : ∀ {vs : List xV} {xs : List Value} (n : Nat), x_vals ρ ad sc vs xs → x_vals ρ ad sc (vs.drop n) (xs.drop n)
  | _, _, 0, h => h
  | [], [], _ + 1, _ => trivial
  | _ :: _, _ :: _, n + 1, h => x_vals.drop n h.2
  | [], _ :: _, _ + 1, h => h.elim
  | _ :: _, [], _ + 1, h => h.elim
/-- category by tag -/
def x_cat (v : xV) : Nat := if v.1 = 1 then 2 else 1
theorem x_val.cat {ρ : List Int} {ad : List Nat} {sc : Nat} {v : xV} {x : Value} (h : x_val ρ ad sc v x) : x.category = x_cat v := by
  obtain ⟨t, b, c⟩ := v
  match t, h with
  | 0, ⟨n, e, g⟩ => subst e; rfl
  | 1, ⟨n, e, g⟩ => subst e; rfl
  | 2, h => cases h; rfl
  | 3, ⟨a, e, g⟩ => subst e; rfl
  | t + 4, h =>
    cases h
    show 1 = x_cat (t + 4, b, c)
    have : ¬ (t + 4 = 1) := by omega
    simp [x_cat, this]
/-- locals -/
def x_locs (ρ : List Int) (ad : List Nat) (sc : Nat) : List (Nat × xV) → List (Nat × Value) → Prop
  | [], [] => True
  | v :: vs, x :: xs => v.1 = x.1 ∧ x_val ρ ad sc v.2 x.2 ∧ x_locs ρ ad sc vs xs
  | _, _ => False
theorem x_locs.mono {ρ ρ' : List Int} {ad ad' : List Nat} {sc : Nat} (h1 : x_ext ρ ρ') (h2 : x_ext ad ad') : ∀ {vs : List (Nat × xV)} {xs : List (Nat × Value)}, x_locs ρ ad sc vs xs → x_locs ρ' ad' sc vs xs
  | [], [], _ => trivial
  | _ :: _, _ :: _, h => ⟨h.1, h.2.1.mono h1 h2, x_locs.mono h1 h2 h.2.2⟩
  | [], _ :: _, h => h.elim
  | _ :: _, [], h => h.elim
def x_find : List (Nat × xV) → Nat → Option xV
  | [], _ => none
  | q :: l, i => if q.1 = i then some q.2 else x_find l i
theorem x_locs.find {ρ : List Int} {ad : List Nat} {sc : Nat} {i : Nat} {v : xV} : ∀ {vs : List (Nat × xV)} {xs : List (Nat × Value)}, x_locs ρ ad sc vs xs → x_find vs i = some v → ∃ (x : Value) (k : Nat), xs[k]? = some (i, x) ∧ x_val ρ ad sc v x
  | [], [], _, e => by simp [x_find] at e
  | q :: vs, y :: xs, h, e => by
    unfold x_find at e
    by_cases hq : q.1 = i
    · rw [if_pos hq] at e
      obtain ⟨a, b⟩ := y
      have h1 : q.1 = a := h.1
      cases e
      exact ⟨b, 0, by simp [← h1, hq], h.2.1⟩
    · rw [if_neg hq] at e
      obtain ⟨x, k, g1, g2⟩ := x_locs.find h.2.2 e
      exact ⟨x, k + 1, by simpa using g1, g2⟩
  | [], _ :: _, h, _ => h.elim
  | _ :: _, [], h, _ => h.elim
def x_put1 (l : List (Nat × xV)) (i : Nat) (v : xV) : List (Nat × xV) := (i, v) :: l.filter (fun q => !(q.1 == i) && !(q.1 + 1 == i && x_cat q.2 == 2))
def x_put2 (l : List (Nat × xV)) (i : Nat) (v : xV) : List (Nat × xV) := (i, v) :: l.filter (fun q => !(q.1 == i) && (!(q.1 == i + 1) && !(q.1 + 1 == i && x_cat q.2 == 2)))
theorem x_locs.filter {ρ : List Int} {ad : List Nat} {sc : Nat} (F : Nat → Nat → Bool) : ∀ {vs : List (Nat × xV)} {xs : List (Nat × Value)}, x_locs ρ ad sc vs xs → x_locs ρ ad sc (vs.filter (fun q => F q.1 (x_cat q.2))) (xs.filter (fun q => F q.1 q.2.category))
  | [], [], _ => trivial
  | q :: vs, y :: xs, h => by
    obtain ⟨a, v⟩ := q
    obtain ⟨b, x⟩ := y
    have h1 : a = b := h.1
    subst h1
    have hc : x.category = x_cat v := h.2.1.cat
    have ih := x_locs.filter F h.2.2
    by_cases hF : F a (x_cat v) = true
    · rw [List.filter_cons_of_pos (by simpa using hF), List.filter_cons_of_pos (by simpa [hc] using hF)]
      exact ⟨rfl, h.2.1, ih⟩
    · rw [List.filter_cons_of_neg (by simpa using hF), List.filter_cons_of_neg (by simpa [hc] using hF)]
      exact ih
  | [], _ :: _, h => h.elim
  | _ :: _, [], h => h.elim
theorem x_locs.put1 {ρ : List Int} {ad : List Nat} {sc : Nat} {vs : List (Nat × xV)} {xs : List (Nat × Value)} {i : Nat} {v : xV} {x : Value} (h : x_locs ρ ad sc vs xs) (g : x_val ρ ad sc v x) :
    x_locs ρ ad sc (x_put1 vs i v) ((i, x) :: xs.filter (fun q => !(q.1 == i) && !(q.1 + 1 == i && q.2.category == 2))) :=
  ⟨rfl, g, x_locs.filter (fun a c => !(a == i) && !(a + 1 == i && c == 2)) h⟩
theorem x_locs.put2 {ρ : List Int} {ad : List Nat} {sc : Nat} {vs : List (Nat × xV)} {xs : List (Nat × Value)} {i : Nat} {v : xV} {x : Value} (h : x_locs ρ ad sc vs xs) (g : x_val ρ ad sc v x) :
    x_locs ρ ad sc (x_put2 vs i v) ((i, x) :: xs.filter (fun q => !(q.1 == i) && (!(q.1 == i + 1) && !(q.1 + 1 == i && q.2.category == 2)))) :=
  ⟨rfl, g, x_locs.filter (fun a c => !(a == i) && (!(a == i + 1) && !(a + 1 == i && c == 2))) h⟩
/-- the locals with which a method begins -/
def x_args : Nat → List xV → List (Nat × xV)
  | _, [] => []
  | i, v :: vs => (i, v) :: x_args (if x_cat v = 2 then i + 2 else i + 1) vs
theorem x_vals.args {ρ : List Int} {ad : List Nat} {sc : Nat} : ∀ {vs : List xV} {xs : List Value} (i : Nat), x_vals ρ ad sc vs xs → x_locs ρ ad sc (x_args i vs) (lv_args i xs)
  | [], [], _, _ => trivial
  | v :: vs, x :: xs, i, h => by
    have hc : x.category = x_cat v := h.1.cat
    refine ⟨rfl, h.1, ?_⟩
    show x_locs ρ ad sc (x_args (if x_cat v = 2 then i + 2 else i + 1) vs) (lv_args (if x.category = 2 then i + 2 else i + 1) xs)
    rw [hc]
    exact x_vals.args _ h.2
  | [], _ :: _, _, h => h.elim
  | _ :: _, [], _, h => h.elim
/-- symbols and their bounds -/
def x_env (ρ : List Int) (E : xE) : Prop := ρ.length = E.length ∧ ∀ (i : Nat) (q : Int × Int) (r : Int), E[i]? = some q → ρ[i]? = some r → q.1 ≤ r ∧ r ≤ q.2
def x_iv (E : xE) (v : xV) : Int × Int := match v.2.1 with
  | none => (v.2.2, v.2.2)
  | some i => match E[i]? with
    | some q => (q.1 + v.2.2, q.2 + v.2.2)
    | none => (v.2.2, v.2.2)
theorem x_iv_ok {ρ : List Int} {E : xE} (h : x_env ρ E) {v : xV} {r : Int} (g : x_ev ρ v.2.1 v.2.2 r) : (x_iv E v).1 ≤ r ∧ r ≤ (x_iv E v).2 := by
  obtain ⟨t, b, c⟩ := v
  cases b with
  | none => have g : r = c := g; subst g; exact ⟨Int.le_refl _, Int.le_refl _⟩
  | some i =>
    obtain ⟨q, h1, h2⟩ := g
    have hl : i < E.length := by rw [← h.1]; exact (List.getElem?_eq_some_iff.mp h1).1
    have he : E[i]? = some E[i] := List.getElem?_eq_getElem hl
    have hb := h.2 i _ q he h1
    simp only [x_iv, he]
    have h2 : r = q + c := h2
    omega
def x_cap (E : xE) (v : xV) (lo hi : Int) : xE := match v.2.1 with
  | none => E
  | some i => match E[i]? with
    | some q => E.set i (max q.1 (lo - v.2.2), min q.2 (hi - v.2.2))
    | none => E
theorem x_cap_ok {ρ : List Int} {E : xE} (h : x_env ρ E) {v : xV} {r lo hi : Int} (g : x_ev ρ v.2.1 v.2.2 r) (h1 : lo ≤ r) (h2 : r ≤ hi) : x_env ρ (x_cap E v lo hi) := by
  obtain ⟨t, b, c⟩ := v
  cases b with
  | none => exact h
  | some i =>
    obtain ⟨q, g1, g2⟩ := g
    have g2 : r = q + c := g2
    have hl : i < E.length := by rw [← h.1]; exact (List.getElem?_eq_some_iff.mp g1).1
    have he : E[i]? = some E[i] := List.getElem?_eq_getElem hl
    simp only [x_cap, he]
    refine ⟨by rw [List.length_set]; exact h.1, fun j q' r' e1 e2 => ?_⟩
    by_cases hj : i = j
    · subst hj
      rw [List.getElem?_set_self hl] at e1
      cases e1
      have hb := h.2 i _ r' he e2
      have e3 : q = r' := by rw [g1] at e2; exact Option.some.inj e2
      refine ⟨?_, ?_⟩
      · show max _ _ ≤ r'
        omega
      · show r' ≤ min _ _
        omega
    · rw [List.getElem?_set_ne hj] at e1
      exact h.2 j q' r' e1 e2
/-- a new symbol -/
theorem x_env.new {ρ : List Int} {E : xE} (h : x_env ρ E) {r lo hi : Int} (h1 : lo ≤ r) (h2 : r ≤ hi) : x_env (ρ ++ [r]) (E ++ [(lo, hi)]) := by
  refine ⟨by simp [h.1], fun i q r' e1 e2 => ?_⟩
  by_cases hi' : i < E.length
  · rw [List.getElem?_append_left hi'] at e1
    rw [List.getElem?_append_left (by rw [h.1]; exact hi')] at e2
    exact h.2 i q r' e1 e2
  · rw [List.getElem?_append_right (by omega)] at e1
    rw [List.getElem?_append_right (by rw [h.1]; omega)] at e2
    have hz : i - E.length < 1 := (List.getElem?_eq_some_iff.mp e1).1
    have e0 : i - E.length = 0 := by omega
    rw [e0] at e1
    rw [h.1, e0] at e2
    cases e1
    cases e2
    exact ⟨h1, h2⟩
theorem x_ev.new {ρ : List Int} {E : xE} (h : x_env ρ E) (r : Int) : x_ev (ρ ++ [r]) (some E.length) 0 r := by
  refine ⟨r, ?_, by omega⟩
  rw [← h.1, List.getElem?_append_right (Nat.le_refl _)]
  simp
theorem x_i32 (n : Int32) : -2147483648 ≤ n.toInt ∧ n.toInt ≤ 2147483647 := by
  have h1 := Int32.le_toInt n
  have h2 := Int32.toInt_lt n
  omega
theorem x_i64 (n : Int64) : -9223372036854775808 ≤ n.toInt ∧ n.toInt ≤ 9223372036854775807 := by
  have h1 := Int64.le_toInt n
  have h2 := Int64.toInt_lt n
  omega
end
section
/-! the executor -/
abbrev xP : Type := (Nat → Nat → Option (Instr × Nat)) × (Nat → Nat → Nat × Nat × Int) × (Nat → Nat × Nat × Nat × Nat × Nat) × (Nat → List Nat) × (Nat → MethodName) × (Nat → ByteArray) × (Nat → Option FieldType)
def x_code (P : xP) : Nat → Nat → Option (Instr × Nat) := P.1
def x_pool (P : xP) : Nat → Nat → Nat × Nat × Int := P.2.1
def x_maxL (P : xP) (m : Nat) : Nat := (P.2.2.1 m).1
def x_retk (P : xP) (m : Nat) : Nat := (P.2.2.1 m).2.1
def x_mc (P : xP) (m : Nat) : Nat := (P.2.2.1 m).2.2.1
def x_ms (P : xP) (m : Nat) : Nat := (P.2.2.1 m).2.2.2.1
def x_mci (P : xP) (m : Nat) : Nat := (P.2.2.1 m).2.2.2.2
def x_cls (P : xP) : Nat → List Nat := P.2.2.2.1
def x_nm (P : xP) : Nat → MethodName := P.2.2.2.2.1
def x_by (P : xP) : Nat → ByteArray := P.2.2.2.2.2.1
def x_rt (P : xP) : Nat → Option FieldType := P.2.2.2.2.2.2
/-- a new symbol with bounds -/
def x_fresh (t : Nat) (E : xE) (lo hi : Int) : xV × xE := ((t, some E.length, 0), E ++ [(lo, hi)])
def x_top32 (E : xE) : xV × xE := x_fresh 0 E (-2147483648) 2147483647
def x_top64 (E : xE) : xV × xE := x_fresh 1 E (-9223372036854775808) 9223372036854775807
def x_in32 (lo hi : Int) : Bool := decide (-2147483648 ≤ lo) && decide (hi ≤ 2147483647)
def x_bin (op : Int32 → Int32 → Int32) (E : xE) (v w : xV) : xV × xE := match v.2.1, w.2.1 with
  | none, none => ((0, none, (op (Int32.ofInt v.2.2) (Int32.ofInt w.2.2)).toInt), E)
  | _, _ => x_top32 E
def x_binL (op : Int64 → Int64 → Int64) (E : xE) (v w : xV) : xV × xE := match v.2.1, w.2.1 with
  | none, none => ((1, none, (op (Int64.ofInt v.2.2) (Int64.ofInt w.2.2)).toInt), E)
  | _, _ => x_top64 E
def x_shL (op : Int64 → Int32 → Int64) (E : xE) (v w : xV) : xV × xE := match v.2.1, w.2.1 with
  | none, none => ((1, none, (op (Int64.ofInt v.2.2) (Int32.ofInt w.2.2)).toInt), E)
  | _, _ => x_top64 E
def x_cmpL (E : xE) (v w : xV) : xV × xE := match v.2.1, w.2.1 with
  | none, none => ((0, none, (lg_cmp (Int64.ofInt v.2.2) (Int64.ofInt w.2.2)).toInt), E)
  | _, _ => x_top32 E
def x_addc (E : xE) (v : xV) (c : Int) : xV × xE := match v.2.1 with
  | none => ((0, none, (Int32.ofInt v.2.2 + Int32.ofInt c).toInt), E)
  | some i => if x_in32 ((x_iv E v).1 + c) ((x_iv E v).2 + c) = true then ((0, some i, v.2.2 + c), E) else x_top32 E
def x_subc (E : xE) (v : xV) (c : Int) : xV × xE := match v.2.1 with
  | none => ((0, none, (Int32.ofInt v.2.2 - Int32.ofInt c).toInt), E)
  | some i => if x_in32 ((x_iv E v).1 - c) ((x_iv E v).2 - c) = true then ((0, some i, v.2.2 - c), E) else x_top32 E
def x_add (E : xE) (v w : xV) : xV × xE := match w.2.1 with
  | none => x_addc E v w.2.2
  | some _ => match v.2.1 with
    | none => x_addc E w v.2.2
    | some _ => if x_in32 ((x_iv E v).1 + (x_iv E w).1) ((x_iv E v).2 + (x_iv E w).2) = true then x_fresh 0 E ((x_iv E v).1 + (x_iv E w).1) ((x_iv E v).2 + (x_iv E w).2) else x_top32 E
def x_sub (E : xE) (v w : xV) : xV × xE := match w.2.1 with
  | none => x_subc E v w.2.2
  | some _ => if x_in32 ((x_iv E v).1 - (x_iv E w).2) ((x_iv E v).2 - (x_iv E w).1) = true then x_fresh 0 E ((x_iv E v).1 - (x_iv E w).2) ((x_iv E v).2 - (x_iv E w).1) else x_top32 E
def x_l2i (E : xE) (v : xV) : xV × xE := match v.2.1 with
  | none => ((0, none, (Int64.ofInt v.2.2).toInt32.toInt), E)
  | some i => if x_in32 (x_iv E v).1 (x_iv E v).2 = true then ((0, some i, v.2.2), E) else x_top32 E
/-- comparisons -/
def x_holds (c : ClassFile.Cond) (x y : Int) : Prop := match c with
  | .eq => x = y
  | .ne => ¬ x = y
  | .lt => x < y
  | .ge => ¬ x < y
  | .gt => y < x
  | .le => ¬ y < x
def x_neg : ClassFile.Cond → ClassFile.Cond
  | .eq => .ne
  | .ne => .eq
  | .lt => .ge
  | .ge => .lt
  | .gt => .le
  | .le => .gt
/-- can it be? by bounds -/
def x_can (c : ClassFile.Cond) (a b : Int × Int) : Bool := match c with
  | .eq => decide (a.1 ≤ b.2) && decide (b.1 ≤ a.2)
  | .ne => true
  | .lt => decide (a.1 < b.2)
  | .ge => decide (b.1 ≤ a.2)
  | .gt => decide (b.1 < a.2)
  | .le => decide (a.1 ≤ b.2)
def x_M : Int := 9223372036854775808
def x_asm (E : xE) (c : ClassFile.Cond) (v w : xV) : xE := match c with
  | .eq => x_cap (x_cap E v (x_iv E w).1 (x_iv E w).2) w (x_iv E v).1 (x_iv E v).2
  | .ne => E
  | .lt => x_cap (x_cap E v (-x_M) ((x_iv E w).2 - 1)) w ((x_iv E v).1 + 1) x_M
  | .ge => x_cap (x_cap E v (x_iv E w).1 x_M) w (-x_M) (x_iv E v).2
  | .gt => x_cap (x_cap E v ((x_iv E w).1 + 1) x_M) w (-x_M) ((x_iv E v).2 - 1)
  | .le => x_cap (x_cap E v (-x_M) (x_iv E w).2) w (x_iv E v).1 x_M
def x_alt (E : xE) (c : ClassFile.Cond) (v w : xV) : List xE := if x_can c (x_iv E v) (x_iv E w) = true then [x_asm E c v w] else []
def x_alts (E : xE) (c : ClassFile.Cond) (v w : xV) : List xE := match c with
  | .ne => if v.2 = w.2 then [] else x_alt E .lt v w ++ x_alt E .gt v w
  | c => x_alt E c v w
/-- an array's place, read and written -/
def x_rdD (t : Nat) (E : xE) (lo hi : Int) : xV × xE := if lo = hi then ((t, none, lo), E) else x_fresh t E lo hi
def x_rd (t : Nat) (E : xE) (a : xA) (i : xV) : Option (xV × xE) :=
  if 0 ≤ (x_iv E i).1 ∧ (x_iv E i).2 < (a.2.1 : Int) then
    match i.2.1 with
    | none => match x_find a.2.2.2.2 i.2.2.toNat with
      | some v => some ((t, v.2), E)
      | none => some (x_rdD t E a.2.2.1 a.2.2.2.1)
    | some _ => match a.2.2.2.2 with
      | [] => some (x_rdD t E a.2.2.1 a.2.2.2.1)
      | _ :: _ => some (if t = 0 then x_top32 E else x_top64 E)
  else none
def x_wr (t : Nat) (E : xE) (a : xA) (i v : xV) : Option xA :=
  if 0 ≤ (x_iv E i).1 ∧ (x_iv E i).2 < (a.2.1 : Int) then
    match i.2.1 with
    | none => if a.2.2.1 = a.2.2.2.1 ∧ v.2.1 = none ∧ v.2.2 = a.2.2.1 ∧ x_find a.2.2.2.2 i.2.2.toNat = none then some a
      else some (a.1, a.2.1, a.2.2.1, a.2.2.2.1, (i.2.2.toNat, v) :: a.2.2.2.2)
    | some _ => match a.2.2.2.2 with
      | [] => some (a.1, a.2.1, min a.2.2.1 (x_iv E v).1, max a.2.2.2.1 (x_iv E v).2, [])
      | _ :: _ => if t = 1 then some (a.1, a.2.1, -9223372036854775808, 9223372036854775807, []) else some (a.1, a.2.1, -2147483648, 2147483647, [])
  else none
def x_dflt : Nat → xV
  | 1 => (1, none, 0)
  | 2 => (2, none, 0)
  | _ => (0, none, 0)
/-- a field's kind (0 int, 1 long, 2 reference, 3 boolean; 10 more: final) takes the value -/
def x_fit (E : xE) (kd : Nat) (v : xV) : Bool := match kd % 10 with
  | 0 => v.1 == 0
  | 1 => v.1 == 1
  | 2 => v.1 == 2 || v.1 == 3
  | 3 => v.1 == 0 && decide (0 ≤ (x_iv E v).1) && decide ((x_iv E v).2 ≤ 1)
  | _ => false
section XSTEP
variable (P : xP) (m pc : Nat) (L : List (Nat × xV)) (st : List xV) (cc ss : Nat) (fs : List xF) (h : List xC) (E : xE)
def x_at (pc' : Nat) (L' : List (Nat × xV)) (st' : List xV) (E' : xE) : xS := ((m, pc', L', st', cc, ss) :: fs, h, E')
def x_ld (n t i : Nat) : Option (List xS) := match x_find L i with
  | some v => if v.1 = t then some [x_at m cc ss fs h (pc + n) L (v :: st) E] else none
  | none => none
def x_lda (n i : Nat) : Option (List xS) := match x_find L i with
  | some v => if v.1 = 3 ∨ v.1 = 4 then some [x_at m cc ss fs h (pc + n) L (v :: st) E] else none
  | none => none
def x_st (n i : Nat) : Option (List xS) := match st with
  | v :: r => if v.1 = 0 ∧ i < x_maxL P m then some [x_at m cc ss fs h (pc + n) (x_put1 L i v) r E] else none
  | [] => none
def x_stL (n i : Nat) : Option (List xS) := match st with
  | v :: r => if v.1 = 1 ∧ i + 1 < x_maxL P m then some [x_at m cc ss fs h (pc + n) (x_put2 L i v) r E] else none
  | [] => none
def x_stA (n i : Nat) : Option (List xS) := match st with
  | v :: r => if v.1 = 3 ∧ i < x_maxL P m then some [x_at m cc ss fs h (pc + n) (x_put1 L i v) r E] else none
  | [] => none
def x_op2 (f : xE → xV → xV → xV × xE) : Option (List xS) := match st with
  | w :: v :: r => if v.1 = 0 ∧ w.1 = 0 then some [x_at m cc ss fs h (pc + 1) L ((f E v w).1 :: r) (f E v w).2] else none
  | _ => none
def x_opL (f : xE → xV → xV → xV × xE) : Option (List xS) := match st with
  | w :: v :: r => if v.1 = 1 ∧ w.1 = 1 then some [x_at m cc ss fs h (pc + 1) L ((f E v w).1 :: r) (f E v w).2] else none
  | _ => none
def x_opS (f : xE → xV → xV → xV × xE) : Option (List xS) := match st with
  | w :: v :: r => if v.1 = 1 ∧ w.1 = 0 then some [x_at m cc ss fs h (pc + 1) L ((f E v w).1 :: r) (f E v w).2] else none
  | _ => none
/-- a divisor that isn't 0 -/
def x_nz (w : xV) : Bool := decide (0 < (x_iv E w).1) || decide ((x_iv E w).2 < 0)
def x_div (f : xE → xV → xV → xV × xE) : Option (List xS) := match st with
  | w :: v :: r => if v.1 = 0 ∧ w.1 = 0 ∧ x_nz E w = true then some [x_at m cc ss fs h (pc + 1) L ((f E v w).1 :: r) (f E v w).2] else none
  | _ => none
def x_divL (f : xE → xV → xV → xV × xE) : Option (List xS) := match st with
  | w :: v :: r => if v.1 = 1 ∧ w.1 = 1 ∧ x_nz E w = true then some [x_at m cc ss fs h (pc + 1) L ((f E v w).1 :: r) (f E v w).2] else none
  | _ => none
def x_br (c : ClassFile.Cond) (v w : xV) (r : List xV) (off : Int) : Option (List xS) :=
  if v.1 = 0 ∧ w.1 = 0 ∧ 0 ≤ (pc : Int) + off then
    some ((x_alts E c v w).map (fun E' => x_at m cc ss fs h ((pc : Int) + off).toNat L r E') ++ (x_alts E (x_neg c) v w).map (fun E' => x_at m cc ss fs h (pc + 3) L r E'))
  else none
def x_swI (v : xV) (r : List xV) (lo : Int) : Nat → List Int → List xS
  | _, [] => []
  | k, off :: l => (if x_can .eq (x_iv E v) (lo + k, lo + k) = true then [x_at m cc ss fs h ((pc : Int) + off).toNat L r (x_cap E v (lo + k) (lo + k))] else []) ++ x_swI v r lo (k + 1) l
def x_sw (v : xV) (r : List xV) (dflt lo hi : Int) (offs : List Int) : Option (List xS) :=
  if v.1 = 0 ∧ 0 ≤ (pc : Int) + dflt ∧ offs.all (fun o => decide (0 ≤ (pc : Int) + o)) = true ∧ (offs.length : Int) = hi - lo + 1 then
    some ((if (x_iv E v).1 < lo then [x_at m cc ss fs h ((pc : Int) + dflt).toNat L r (x_cap E v (-x_M) (lo - 1))] else []) ++
      (if hi < (x_iv E v).2 then [x_at m cc ss fs h ((pc : Int) + dflt).toNat L r (x_cap E v (hi + 1) x_M)] else []) ++ x_swI m pc L cc ss fs h E v r lo 0 offs)
  else none
def x_getf (idx : Nat) : Option (List xS) := match st with
  | (3, _, k) :: r => match x_pool P m idx, h[k.toNat]? with
    | (1, ci, f), some (.inr (ci', vs)) => if ci' = ci then match vs[f.toNat]? with
      | some v => some [x_at m cc ss fs h (pc + 3) L (v :: r) E]
      | none => none else none
    | _, _ => none
  | _ => none
def x_putf (idx : Nat) : Option (List xS) := match st with
  | v :: (3, _, k) :: r => match x_pool P m idx, h[k.toNat]? with
    | (1, ci, f), some (.inr (ci', vs)) => if ci' = ci ∧ f.toNat < vs.length then match (x_cls P ci)[f.toNat]? with
      | some kd => if x_fit E kd v = true ∧ (kd < 10 ∨ (x_nm P m).name = "<init>" ∧ x_mci P m = ci) then
          some [((m, pc + 3, L, r, cc, ss) :: fs, h.set k.toNat (.inr (ci, vs.set f.toNat v)), E)] else none
      | none => none else none
    | _, _ => none
  | _ => none
def x_ald (t ty : Nat) : Option (List xS) := match st with
  | i :: (3, _, k) :: r => match h[k.toNat]? with
    | some (.inl a) => if i.1 = 0 ∧ a.1 = ty then match x_rd t E a i with
      | some q => some [x_at m cc ss fs h (pc + 1) L (q.1 :: r) q.2]
      | none => none else none
    | _ => none
  | i :: (4, _, _) :: r => if ty = 0 ∧ m = 0 ∧ i.1 = 0 ∧ i.2.1 = none ∧ 0 ≤ i.2.2 ∧ i.2.2 < 6 ∧ i.2.2 < (x_iv E (0, some 6, 0)).1 then some [x_at m cc ss fs h (pc + 1) L ((0, some i.2.2.toNat, 0) :: r) E] else none
  | _ => none
def x_ast (t ty : Nat) : Option (List xS) := match st with
  | v :: i :: (3, _, k) :: r => match h[k.toNat]? with
    | some (.inl a) => if i.1 = 0 ∧ v.1 = t ∧ a.1 = ty ∧ (ty = 2 → x_fit E 3 v = true) then match x_wr t E a i v with
      | some b => some [((m, pc + 1, L, r, cc, ss) :: fs, h.set k.toNat (.inl b), E)]
      | none => none else none
    | _ => none
  | _ => none
def x_alen : Option (List xS) := match st with
  | (3, _, k) :: r => match h[k.toNat]? with
    | some (.inl a) => if a.1 < 3 then some [x_at m cc ss fs h (pc + 1) L ((0, none, (Int32.ofNat a.2.1).toInt) :: r) E] else none
    | _ => none
  | (4, _, _) :: r => if m = 0 then some [x_at m cc ss fs h (pc + 1) L ((0, some 6, 0) :: r) E] else none
  | _ => none
def x_newa (ty : Nat) : Option (List xS) := match st with
  | (0, none, n) :: r => if 0 ≤ n ∧ n ≤ 60000000 ∧ cc + 1 ≤ x_mc P m ∧ ss + n.toNat ≤ x_ms P m then
      some [((m, pc + 2, L, (3, none, h.length) :: r, cc + 1, ss + n.toNat) :: fs, h ++ [.inl (ty, n.toNat, 0, 0, [])], E)] else none
  | _ => none
def x_new (idx : Nat) : Option (List xS) := match x_pool P m idx with
  | (9, ci, _) => if cc + 1 ≤ x_mc P m ∧ ss + (x_cls P ci).length ≤ x_ms P m then
      some [((m, pc + 3, L, (3, none, h.length) :: st, cc + 1, ss + (x_cls P ci).length) :: fs, h ++ [.inr (ci, (x_cls P ci).map (fun k => x_dflt (k % 10)))], E)] else none
  | _ => none
/-- a call: method j, its arguments (receiver first), what stays on the stack -/
def x_push (j : Nat) (as rest : List xV) : Option (List xS) :=
  if cc + x_mc P j ≤ x_mc P m ∧ ss + x_ms P j ≤ x_ms P m ∧ fs.length < 40 ∧ x_maxL P j ≤ 60 ∧ (as.map x_cat).sum ≤ x_maxL P j ∧ (rest.map x_cat).sum ≤ 8 then
    some [((j, 0, x_args 0 as, [], 0, 0) :: (m, pc + 3, L, rest, cc + x_mc P j, ss + x_ms P j) :: fs, h, E)]
  else none
def x_cpy (idx : Nat) : Option (List xS) := match st with
  | (0, none, n) :: (0, none, dp) :: (3, _, kd) :: (0, none, sp) :: (3, _, ks) :: r => match h[ks.toNat]?, h[kd.toNat]? with
    | some (.inl (0, n0, lo0, hi0, [])), some (.inl (0, n1, lo1, hi1, [])) =>
      if 0 ≤ n ∧ 0 ≤ dp ∧ 0 ≤ sp ∧ sp + n ≤ n0 ∧ dp + n ≤ n1 ∧ (r.map x_cat).sum ≤ 8 then
        some [((m, pc + 3, L, r, cc, ss) :: fs, h.set kd.toNat (.inl (0, n1, min lo0 lo1, max hi0 hi1, [])), E)] else none
    | _, _ => none
  | _ => none
def x_invV (idx : Nat) : Option (List xS) := match x_pool P m idx with
  | (2, j, n) => match st.drop n.toNat with
    | (3, b, k) :: rest => match h[k.toNat]? with
      | some (.inr (ci, _)) => if ci = x_mci P j ∧ (st.take n.toNat).length = n.toNat then x_push P m pc L cc ss fs h E j ((3, b, k) :: (st.take n.toNat).reverse) rest else none
      | _ => none
    | _ => none
  | _ => none
def x_invI (idx : Nat) : Option (List xS) := match x_pool P m idx with
  | (3, j, n) => match st.drop n.toNat with
    | (3, b, k) :: rest => if (st.take n.toNat).length = n.toNat then x_push P m pc L cc ss fs h E j ((3, b, k) :: (st.take n.toNat).reverse) rest else none
    | _ => none
  | (4, j, n) => match st.drop n.toNat with
    | (3, b, k) :: rest => if (st.take n.toNat).length = n.toNat then x_push P m pc L cc ss fs h E j ((3, b, k) :: (st.take n.toNat).reverse) rest else none
    | _ => none
  | (5, _, _) => match st with
    | (3, _, _) :: r => if (r.map x_cat).sum ≤ 8 then some [x_at m cc ss fs h (pc + 3) L r E] else none
    | _ => none
  | _ => none
def x_invS (idx : Nat) : Option (List xS) := match x_pool P m idx with
  | (6, j, n) => if (st.take n.toNat).length = n.toNat then x_push P m pc L cc ss fs h E j (st.take n.toNat).reverse (st.drop n.toNat) else none
  | (10, _, _) => x_cpy m pc L st cc ss fs h E idx
  | _ => none
/-- the end of a method: its kind (0 nothing, 1 int, 2 boolean, 3 long) -/
def x_ret (t : Nat) : Option (List xS) := match st with
  | [v] => if v.1 = t then match fs with
      | [] => if t = 0 ∧ m = 0 ∧ v.2.1 = none ∧ v.2.2 = 1 then some [] else none
      | (m', pc', L', st', cc', ss') :: fs' => if cc ≤ x_mc P m ∧ ss ≤ x_ms P m ∧ (t = 0 ∧ x_retk P m = 1 ∨ t = 0 ∧ x_retk P m = 2 ∧ x_fit E 3 v = true ∨ t = 1 ∧ x_retk P m = 3) then some [((m', pc', L', v :: st', cc', ss') :: fs', h, E)] else none
      else none
  | _ => none
def x_retV : Option (List xS) := match st, fs with
  | [], (m', pc', L', st', cc', ss') :: fs' => if cc ≤ x_mc P m ∧ ss ≤ x_ms P m ∧ x_retk P m = 0 then some [((m', pc', L', st', cc', ss') :: fs', h, E)] else none
  | _, _ => none
def x_if (b : Bool) (r : Option (List xS)) : Option (List xS) := cond b r none
def x_push1 (n : Nat) (v : xV) : Option (List xS) := some [x_at m cc ss fs h (pc + n) L (v :: st) E]
def x_ins (i : Instr) (len : Nat) : Option (List xS) := match i with
  | .iconst n => x_if (len == 1) (x_push1 m pc L st cc ss fs h E 1 (0, none, (Int32.ofInt n).toInt))
  | .bipush n => x_if (len == 2) (x_push1 m pc L st cc ss fs h E 2 (0, none, (Int8.ofInt n).toInt32.toInt))
  | .sipush n => x_if (len == 3) (x_push1 m pc L st cc ss fs h E 3 (0, none, (Int16.ofInt n).toInt32.toInt))
  | .lconst k => x_if (len == 1) (x_push1 m pc L st cc ss fs h E 1 (1, none, (Int64.ofNat (k : Nat)).toInt))
  | .ldc idx => x_if (len == 2) (match x_pool P m idx with
    | (7, _, c) => x_push1 m pc L st cc ss fs h E 2 (0, none, c)
    | _ => none)
  | .ldc_w idx => x_if (len == 3) (match x_pool P m idx with
    | (7, _, c) => x_push1 m pc L st cc ss fs h E 3 (0, none, c)
    | _ => none)
  | .ldc2_w idx => x_if (len == 3) (match x_pool P m idx with
    | (8, _, c) => x_push1 m pc L st cc ss fs h E 3 (1, none, c)
    | _ => none)
  | .iload i => x_if (len == 2) (x_ld m pc L st cc ss fs h E 2 0 i)
  | .iload_n i => x_if (len == 1) (x_ld m pc L st cc ss fs h E 1 0 (i : Nat))
  | .lload i => x_if (len == 2) (x_ld m pc L st cc ss fs h E 2 1 i)
  | .lload_n i => x_if (len == 1) (x_ld m pc L st cc ss fs h E 1 1 (i : Nat))
  | .aload i => x_if (len == 2) (x_lda m pc L st cc ss fs h E 2 i)
  | .aload_n i => x_if (len == 1) (x_lda m pc L st cc ss fs h E 1 (i : Nat))
  | .istore i => x_if (len == 2) (x_st P m pc L st cc ss fs h E 2 i)
  | .istore_n i => x_if (len == 1) (x_st P m pc L st cc ss fs h E 1 (i : Nat))
  | .lstore i => x_if (len == 2) (x_stL P m pc L st cc ss fs h E 2 i)
  | .lstore_n i => x_if (len == 1) (x_stL P m pc L st cc ss fs h E 1 (i : Nat))
  | .astore i => x_if (len == 2) (x_stA P m pc L st cc ss fs h E 2 i)
  | .astore_n i => x_if (len == 1) (x_stA P m pc L st cc ss fs h E 1 (i : Nat))
  | .iinc i n => x_if (len == 3) (match x_find L i with
    | some v => if v.1 = 0 ∧ i < x_maxL P m then some [x_at m cc ss fs h (pc + 3) (x_put1 L i (x_addc E v (Int32.ofInt n).toInt).1) st (x_addc E v (Int32.ofInt n).toInt).2] else none
    | none => none)
  | .iadd => x_if (len == 1) (x_op2 m pc L st cc ss fs h E x_add)
  | .isub => x_if (len == 1) (x_op2 m pc L st cc ss fs h E x_sub)
  | .imul => x_if (len == 1) (x_op2 m pc L st cc ss fs h E (x_bin (· * ·)))
  | .iand => x_if (len == 1) (x_op2 m pc L st cc ss fs h E (x_bin (· &&& ·)))
  | .ior => x_if (len == 1) (x_op2 m pc L st cc ss fs h E (x_bin (· ||| ·)))
  | .ixor => x_if (len == 1) (x_op2 m pc L st cc ss fs h E (x_bin (· ^^^ ·)))
  | .ishl => x_if (len == 1) (x_op2 m pc L st cc ss fs h E (x_bin (fun x y => x <<< (y &&& 31))))
  | .ishr => x_if (len == 1) (x_op2 m pc L st cc ss fs h E (x_bin (fun x y => x >>> (y &&& 31))))
  | .iushr => x_if (len == 1) (x_op2 m pc L st cc ss fs h E (x_bin (fun x y => (x.toUInt32 >>> (y.toUInt32 &&& Int32.toUInt32 31)).toInt32)))
  | .idiv => x_if (len == 1) (x_div m pc L st cc ss fs h E (x_bin (· / ·)))
  | .irem => x_if (len == 1) (x_div m pc L st cc ss fs h E (x_bin (fun x y => x - x / y * y)))
  | .ladd => x_if (len == 1) (x_opL m pc L st cc ss fs h E (x_binL (· + ·)))
  | .lsub => x_if (len == 1) (x_opL m pc L st cc ss fs h E (x_binL (· - ·)))
  | .lmul => x_if (len == 1) (x_opL m pc L st cc ss fs h E (x_binL (· * ·)))
  | .land => x_if (len == 1) (x_opL m pc L st cc ss fs h E (x_binL (· &&& ·)))
  | .lor => x_if (len == 1) (x_opL m pc L st cc ss fs h E (x_binL (· ||| ·)))
  | .ldiv => x_if (len == 1) (x_divL m pc L st cc ss fs h E (x_binL (· / ·)))
  | .lrem => x_if (len == 1) (x_divL m pc L st cc ss fs h E (x_binL (fun x y => x - x / y * y)))
  | .lcmp => x_if (len == 1) (x_opL m pc L st cc ss fs h E x_cmpL)
  | .lshl => x_if (len == 1) (x_opS m pc L st cc ss fs h E (x_shL (fun x y => x <<< (y.toInt64 &&& 63))))
  | .lshr => x_if (len == 1) (x_opS m pc L st cc ss fs h E (x_shL (fun x y => x >>> (y.toInt64 &&& 63))))
  | .i2l => x_if (len == 1) (match st with
    | v :: r => if v.1 = 0 then some [x_at m cc ss fs h (pc + 1) L ((1, v.2) :: r) E] else none
    | [] => none)
  | .l2i => x_if (len == 1) (match st with
    | v :: r => if v.1 = 1 then some [x_at m cc ss fs h (pc + 1) L ((x_l2i E v).1 :: r) (x_l2i E v).2] else none
    | [] => none)
  | .dup => x_if (len == 1) (match st with
    | v :: r => if x_cat v = 1 then some [x_at m cc ss fs h (pc + 1) L (v :: v :: r) E] else none
    | [] => none)
  | .pop => x_if (len == 1) (match st with
    | v :: r => if x_cat v = 1 then some [x_at m cc ss fs h (pc + 1) L r E] else none
    | [] => none)
  | .dup2 => x_if (len == 1) (match st with
    | v :: w :: r => if x_cat v = 1 ∧ x_cat w = 1 then some [x_at m cc ss fs h (pc + 1) L (v :: w :: v :: w :: r) E] else none
    | _ => none)
  | .ifCond c off => x_if (len == 3) (match st with
    | v :: r => x_br m pc L cc ss fs h E c v (0, none, 0) r off
    | [] => none)
  | .if_icmp c off => x_if (len == 3) (match st with
    | w :: v :: r => x_br m pc L cc ss fs h E c v w r off
    | _ => none)
  | .goto off => x_if (len == 3) (if 0 ≤ (pc : Int) + off then some [x_at m cc ss fs h ((pc : Int) + off).toNat L st E] else none)
  | .tableswitch dflt lo hi offs => match st with
    | v :: r => x_sw m pc L cc ss fs h E v r dflt lo hi offs.toList
    | [] => none
  | .getfield idx => x_if (len == 3) (x_getf P m pc L st cc ss fs h E idx)
  | .putfield idx => x_if (len == 3) (x_putf P m pc L st cc ss fs h E idx)
  | .iaload => x_if (len == 1) (x_ald m pc L st cc ss fs h E 0 0)
  | .laload => x_if (len == 1) (x_ald m pc L st cc ss fs h E 1 1)
  | .baload => x_if (len == 1) (x_ald m pc L st cc ss fs h E 0 2)
  | .iastore => x_if (len == 1) (x_ast m pc L st cc ss fs h E 0 0)
  | .lastore => x_if (len == 1) (x_ast m pc L st cc ss fs h E 1 1)
  | .bastore => x_if (len == 1) (x_ast m pc L st cc ss fs h E 0 2)
  | .arraylength => x_if (len == 1) (x_alen m pc L st cc ss fs h E)
  | .newarray t => x_if (len == 2) (match t with
    | .int => x_newa P m pc L st cc ss fs h E 0
    | .long => x_newa P m pc L st cc ss fs h E 1
    | .boolean => x_newa P m pc L st cc ss fs h E 2
    | _ => none)
  | .new idx => x_if (len == 3) (x_new P m pc L st cc ss fs h E idx)
  | .invokevirtual idx => x_if (len == 3) (x_invV P m pc L st cc ss fs h E idx)
  | .invokespecial idx => x_if (len == 3) (x_invI P m pc L st cc ss fs h E idx)
  | .invokestatic idx => x_if (len == 3) (x_invS P m pc L st cc ss fs h E idx)
  | .ireturn => x_if (len == 1) (x_ret P m st cc ss fs h E 0)
  | .lreturn => x_if (len == 1) (x_ret P m st cc ss fs h E 1)
  | .return_ => x_if (len == 1) (x_retV P m st cc ss fs h E)
  | _ => none
end XSTEP
def x_step (P : xP) (S : xS) : Option (List xS) := match S with
  | ([], _, _) => none
  | ((m, pc, L, st, cc, ss) :: fs, h, E) => match x_code P m pc with
    | some (i, len) => x_ins P m pc L st cc ss fs h E i len
    | none => none
def x_run (P : xP) : Nat → xS → Bool
  | 0, _ => false
  | n + 1, S => match x_step P S with
    | some [S'] => x_run P n S'
    | some l => l.all (x_run P n)
    | none => false
theorem x_run_ok {P : xP} {n : Nat} {S : xS} (h : x_run P (n + 1) S = true) : ∃ l, x_step P S = some l ∧ ∀ S' ∈ l, x_run P n S' = true := by
  unfold x_run at h
  split at h
  next S' e => exact ⟨[S'], e, fun q hq => by rw [List.mem_singleton.mp hq]; exact h⟩
  next l _ e => exact ⟨l, e, fun q hq => List.all_eq_true.mp h q hq⟩
  next => cases h
end
section
/-! the operations on abstract values are right -/
theorem x_val.int {ρ : List Int} {ad : List Nat} {sc : Nat} {v : xV} {x : Value} (ht : v.1 = 0) (h : x_val ρ ad sc v x) : ∃ n : Int32, x = .int n ∧ x_ev ρ v.2.1 v.2.2 n.toInt := by
  obtain ⟨t, b, c⟩ := v
  cases ht
  exact h
theorem x_val.long {ρ : List Int} {ad : List Nat} {sc : Nat} {v : xV} {x : Value} (ht : v.1 = 1) (h : x_val ρ ad sc v x) : ∃ n : Int64, x = .long n ∧ x_ev ρ v.2.1 v.2.2 n.toInt := by
  obtain ⟨t, b, c⟩ := v
  cases ht
  exact h
theorem x_val.ref {ρ : List Int} {ad : List Nat} {sc : Nat} {v : xV} {x : Value} (ht : v.1 = 3) (h : x_val ρ ad sc v x) : ∃ a, x = .ref a ∧ ad[v.2.2.toNat]? = some a := by
  obtain ⟨t, b, c⟩ := v
  cases ht
  exact h
theorem x_val.mkI {ρ : List Int} {ad : List Nat} {sc : Nat} {v : xV} {n : Int32} (ht : v.1 = 0) (h : x_ev ρ v.2.1 v.2.2 n.toInt) : x_val ρ ad sc v (.int n) := by
  obtain ⟨t, b, c⟩ := v
  cases ht
  exact ⟨n, rfl, h⟩
theorem x_val.mkL {ρ : List Int} {ad : List Nat} {sc : Nat} {v : xV} {n : Int64} (ht : v.1 = 1) (h : x_ev ρ v.2.1 v.2.2 n.toInt) : x_val ρ ad sc v (.long n) := by
  obtain ⟨t, b, c⟩ := v
  cases ht
  exact ⟨n, rfl, h⟩
/-- what an operation gives: perhaps with one more symbol -/
def x_resI (ρ : List Int) (q : xV × xE) (r : Int32) : Prop := q.1.1 = 0 ∧ ∃ ρ', x_ext ρ ρ' ∧ x_env ρ' q.2 ∧ x_ev ρ' q.1.2.1 q.1.2.2 r.toInt
def x_resL (ρ : List Int) (q : xV × xE) (r : Int64) : Prop := q.1.1 = 1 ∧ ∃ ρ', x_ext ρ ρ' ∧ x_env ρ' q.2 ∧ x_ev ρ' q.1.2.1 q.1.2.2 r.toInt
theorem x_freshI {ρ : List Int} {E : xE} (h : x_env ρ E) {r : Int32} {lo hi : Int} (h1 : lo ≤ r.toInt) (h2 : r.toInt ≤ hi) : x_resI ρ (x_fresh 0 E lo hi) r :=
  ⟨rfl, ρ ++ [r.toInt], x_ext.app _ _, h.new h1 h2, x_ev.new h _⟩
theorem x_freshL {ρ : List Int} {E : xE} (h : x_env ρ E) {r : Int64} {lo hi : Int} (h1 : lo ≤ r.toInt) (h2 : r.toInt ≤ hi) : x_resL ρ (x_fresh 1 E lo hi) r :=
  ⟨rfl, ρ ++ [r.toInt], x_ext.app _ _, h.new h1 h2, x_ev.new h _⟩
theorem x_top32_ok {ρ : List Int} {E : xE} (h : x_env ρ E) (r : Int32) : x_resI ρ (x_top32 E) r := x_freshI h (x_i32 r).1 (x_i32 r).2
theorem x_top64_ok {ρ : List Int} {E : xE} (h : x_env ρ E) (r : Int64) : x_resL ρ (x_top64 E) r := x_freshL h (x_i64 r).1 (x_i64 r).2
theorem x_keepI {ρ : List Int} {E : xE} (h : x_env ρ E) {b : Option Nat} {c : Int} {r : Int32} (g : x_ev ρ b c r.toInt) : x_resI ρ ((0, b, c), E) r := ⟨rfl, ρ, x_ext.rf _, h, g⟩
theorem x_keepL {ρ : List Int} {E : xE} (h : x_env ρ E) {b : Option Nat} {c : Int} {r : Int64} (g : x_ev ρ b c r.toInt) : x_resL ρ ((1, b, c), E) r := ⟨rfl, ρ, x_ext.rf _, h, g⟩
theorem x_of32 {a : Int32} {c : Int} (h : a.toInt = c) : Int32.ofInt c = a := by rw [← h]; exact Int32.ofInt_toInt a
theorem x_of64 {a : Int64} {c : Int} (h : a.toInt = c) : Int64.ofInt c = a := by rw [← h]; exact Int64.ofInt_toInt a
theorem x_bin_ok (op : Int32 → Int32 → Int32) {ρ : List Int} {E : xE} (h : x_env ρ E) {v w : xV} {a b : Int32} (hv : x_ev ρ v.2.1 v.2.2 a.toInt) (hw : x_ev ρ w.2.1 w.2.2 b.toInt) : x_resI ρ (x_bin op E v w) (op a b) := by
  obtain ⟨t, bv, cv⟩ := v
  obtain ⟨u, bw, cw⟩ := w
  cases bv with
  | none =>
    cases bw with
    | none =>
      have e1 : Int32.ofInt cv = a := x_of32 hv
      have e2 : Int32.ofInt cw = b := x_of32 hw
      refine x_keepI h ?_
      show _ = _
      rw [e1, e2]
    | some j => exact x_top32_ok h _
  | some i => exact x_top32_ok h _
theorem x_binL_ok (op : Int64 → Int64 → Int64) {ρ : List Int} {E : xE} (h : x_env ρ E) {v w : xV} {a b : Int64} (hv : x_ev ρ v.2.1 v.2.2 a.toInt) (hw : x_ev ρ w.2.1 w.2.2 b.toInt) : x_resL ρ (x_binL op E v w) (op a b) := by
  obtain ⟨t, bv, cv⟩ := v
  obtain ⟨u, bw, cw⟩ := w
  cases bv with
  | none =>
    cases bw with
    | none =>
      have e1 : Int64.ofInt cv = a := x_of64 hv
      have e2 : Int64.ofInt cw = b := x_of64 hw
      refine x_keepL h ?_
      show _ = _
      rw [e1, e2]
    | some j => exact x_top64_ok h _
  | some i => exact x_top64_ok h _
theorem x_shL_ok (op : Int64 → Int32 → Int64) {ρ : List Int} {E : xE} (h : x_env ρ E) {v w : xV} {a : Int64} {b : Int32} (hv : x_ev ρ v.2.1 v.2.2 a.toInt) (hw : x_ev ρ w.2.1 w.2.2 b.toInt) : x_resL ρ (x_shL op E v w) (op a b) := by
  obtain ⟨t, bv, cv⟩ := v
  obtain ⟨u, bw, cw⟩ := w
  cases bv with
  | none =>
    cases bw with
    | none =>
      have e1 : Int64.ofInt cv = a := x_of64 hv
      have e2 : Int32.ofInt cw = b := x_of32 hw
      refine x_keepL h ?_
      show _ = _
      rw [e1, e2]
    | some j => exact x_top64_ok h _
  | some i => exact x_top64_ok h _
theorem x_cmpL_ok {ρ : List Int} {E : xE} (h : x_env ρ E) {v w : xV} {a b : Int64} (hv : x_ev ρ v.2.1 v.2.2 a.toInt) (hw : x_ev ρ w.2.1 w.2.2 b.toInt) : x_resI ρ (x_cmpL E v w) (lg_cmp a b) := by
  obtain ⟨t, bv, cv⟩ := v
  obtain ⟨u, bw, cw⟩ := w
  cases bv with
  | none =>
    cases bw with
    | none =>
      have e1 : Int64.ofInt cv = a := x_of64 hv
      have e2 : Int64.ofInt cw = b := x_of64 hw
      refine x_keepI h ?_
      show _ = _
      rw [e1, e2]
    | some j => exact x_top32_ok h _
  | some i => exact x_top32_ok h _
theorem x_in32_ok {lo hi : Int} (h : x_in32 lo hi = true) : -2147483648 ≤ lo ∧ hi ≤ 2147483647 := by
  simpa [x_in32, Bool.and_eq_true, decide_eq_true_eq] using h
theorem x_bm {x : Int} (h1 : -2147483648 ≤ x) (h2 : x ≤ 2147483647) : x.bmod (2 ^ 32) = x := Int.bmod_eq_of_le (by omega) (by omega)
theorem x_addc_ok {ρ : List Int} {E : xE} (h : x_env ρ E) {v : xV} {a b : Int32} (hv : x_ev ρ v.2.1 v.2.2 a.toInt) : x_resI ρ (x_addc E v b.toInt) (a + b) := by
  obtain ⟨t, bv, cv⟩ := v
  cases bv with
  | none =>
    have e1 : Int32.ofInt cv = a := x_of32 hv
    have e2 : Int32.ofInt b.toInt = b := x_of32 rfl
    refine x_keepI h ?_
    show _ = _
    rw [e1, e2]
  | some i =>
    unfold x_addc
    dsimp only
    split
    next hr =>
      have hb := x_in32_ok hr
      have hi := x_iv_ok h (v := (t, some i, cv)) hv
      refine x_keepI h ?_
      obtain ⟨q, g1, g2⟩ := hv
      refine ⟨q, g1, ?_⟩
      rw [Int32.toInt_add, x_bm (by omega) (by omega)]
      have g2 : a.toInt = q + cv := g2
      omega
    next => exact x_top32_ok h _
theorem x_subc_ok {ρ : List Int} {E : xE} (h : x_env ρ E) {v : xV} {a b : Int32} (hv : x_ev ρ v.2.1 v.2.2 a.toInt) : x_resI ρ (x_subc E v b.toInt) (a - b) := by
  obtain ⟨t, bv, cv⟩ := v
  cases bv with
  | none =>
    have e1 : Int32.ofInt cv = a := x_of32 hv
    have e2 : Int32.ofInt b.toInt = b := x_of32 rfl
    refine x_keepI h ?_
    show _ = _
    rw [e1, e2]
  | some i =>
    unfold x_subc
    dsimp only
    split
    next hr =>
      have hb := x_in32_ok hr
      have hi := x_iv_ok h (v := (t, some i, cv)) hv
      refine x_keepI h ?_
      obtain ⟨q, g1, g2⟩ := hv
      refine ⟨q, g1, ?_⟩
      rw [Int32.toInt_sub, x_bm (by omega) (by omega)]
      have g2 : a.toInt = q + cv := g2
      omega
    next => exact x_top32_ok h _
theorem x_add_ok {ρ : List Int} {E : xE} (h : x_env ρ E) {v w : xV} {a b : Int32} (hv : x_ev ρ v.2.1 v.2.2 a.toInt) (hw : x_ev ρ w.2.1 w.2.2 b.toInt) : x_resI ρ (x_add E v w) (a + b) := by
  have h1 := x_iv_ok h hv
  have h2 := x_iv_ok h hw
  obtain ⟨t, bv, cv⟩ := v
  obtain ⟨u, bw, cw⟩ := w
  cases bw with
  | none =>
    have hw : b.toInt = cw := hw
    subst hw
    exact x_addc_ok h hv
  | some j =>
    cases bv with
    | none =>
      have hv : a.toInt = cv := hv
      subst hv
      rw [Int32.add_comm]
      exact x_addc_ok h hw
    | some i =>
      unfold x_add
      dsimp only
      split
      next hr =>
        have hb := x_in32_ok hr
        have e : (a + b).toInt = a.toInt + b.toInt := by rw [Int32.toInt_add, x_bm (by omega) (by omega)]
        exact x_freshI h (by omega) (by omega)
      next => exact x_top32_ok h _
theorem x_sub_ok {ρ : List Int} {E : xE} (h : x_env ρ E) {v w : xV} {a b : Int32} (hv : x_ev ρ v.2.1 v.2.2 a.toInt) (hw : x_ev ρ w.2.1 w.2.2 b.toInt) : x_resI ρ (x_sub E v w) (a - b) := by
  have h1 := x_iv_ok h hv
  have h2 := x_iv_ok h hw
  obtain ⟨t, bv, cv⟩ := v
  obtain ⟨u, bw, cw⟩ := w
  cases bw with
  | none =>
    have hw : b.toInt = cw := hw
    subst hw
    exact x_subc_ok h hv
  | some j =>
    unfold x_sub
    dsimp only
    split
    next hr =>
      have hb := x_in32_ok hr
      have e : (a - b).toInt = a.toInt - b.toInt := by rw [Int32.toInt_sub, x_bm (by omega) (by omega)]
      exact x_freshI h (by omega) (by omega)
    next => exact x_top32_ok h _
theorem x_l2i_ok {ρ : List Int} {E : xE} (h : x_env ρ E) {v : xV} {a : Int64} (hv : x_ev ρ v.2.1 v.2.2 a.toInt) : x_resI ρ (x_l2i E v) a.toInt32 := by
  obtain ⟨t, bv, cv⟩ := v
  cases bv with
  | none =>
    have e1 : Int64.ofInt cv = a := x_of64 hv
    refine x_keepI h ?_
    show _ = _
    rw [e1]
  | some i =>
    unfold x_l2i
    dsimp only
    split
    next hr =>
      have hb := x_in32_ok hr
      have hi := x_iv_ok h (v := (t, some i, cv)) hv
      refine x_keepI h ?_
      rw [Int64.toInt_toInt32, x_bm (by omega) (by omega)]
      exact hv
    next => exact x_top32_ok h _
theorem x_i2l_ok {ρ : List Int} {v : xV} {a : Int32} (hv : x_ev ρ v.2.1 v.2.2 a.toInt) : x_ev ρ v.2.1 v.2.2 a.toInt64.toInt := by
  rw [Int32.toInt_toInt64]
  exact hv
theorem x_neg_ok {c : ClassFile.Cond} {x y : Int} (h : ¬ x_holds c x y) : x_holds (x_neg c) x y := by
  cases c <;> simp only [x_neg, x_holds] at h ⊢ <;> first | exact h | exact Decidable.of_not_not h
theorem x_alt_ok {ρ : List Int} {E : xE} (h : x_env ρ E) {c : ClassFile.Cond} {v w : xV} {a b : Int} (hv : x_ev ρ v.2.1 v.2.2 a) (hw : x_ev ρ w.2.1 w.2.2 b) (ha : -x_M ≤ a ∧ a ≤ x_M) (hb : -x_M ≤ b ∧ b ≤ x_M) (hc : c ≠ .ne) (hh : x_holds c a b) : ∃ E' ∈ x_alt E c v w, x_env ρ E' := by
  have h1 := x_iv_ok h hv
  have h2 := x_iv_ok h hw
  have hcan : x_can c (x_iv E v) (x_iv E w) = true := by
    cases c <;> simp only [x_can, x_holds, Bool.and_eq_true, decide_eq_true_eq] at hh ⊢ <;> omega
  refine ⟨x_asm E c v w, by unfold x_alt; rw [if_pos hcan]; exact List.mem_singleton.mpr rfl, ?_⟩
  cases c <;> simp only [x_asm, x_holds] at hh ⊢
  · exact x_cap_ok (x_cap_ok h hv (by omega) (by omega)) hw (by omega) (by omega)
  · exact h
  · exact x_cap_ok (x_cap_ok h hv (by omega) (by omega)) hw (by omega) (by omega)
  · exact x_cap_ok (x_cap_ok h hv (by omega) (by omega)) hw (by omega) (by omega)
  · exact x_cap_ok (x_cap_ok h hv (by omega) (by omega)) hw (by omega) (by omega)
  · exact x_cap_ok (x_cap_ok h hv (by omega) (by omega)) hw (by omega) (by omega)
theorem x_ev_inj {ρ : List Int} {q : Option Nat × Int} {a b : Int} (h : x_ev ρ q.1 q.2 a) (g : x_ev ρ q.1 q.2 b) : a = b := by
  obtain ⟨o, c⟩ := q
  cases o with
  | none => exact Eq.trans h (Eq.symm g)
  | some i =>
    obtain ⟨x, h1, h2⟩ := h
    obtain ⟨y, g1, g2⟩ := g
    cases h1.symm.trans g1
    exact h2.trans g2.symm
theorem x_alts_ok {ρ : List Int} {E : xE} (h : x_env ρ E) {c : ClassFile.Cond} {v w : xV} {a b : Int} (hv : x_ev ρ v.2.1 v.2.2 a) (hw : x_ev ρ w.2.1 w.2.2 b) (ha : -x_M ≤ a ∧ a ≤ x_M) (hb : -x_M ≤ b ∧ b ≤ x_M) (hh : x_holds c a b) : ∃ E' ∈ x_alts E c v w, x_env ρ E' := by
  by_cases hc : c = .ne
  · subst hc
    have hne : ¬ v.2 = w.2 := fun e => hh (x_ev_inj (q := v.2) hv (by rw [e]; exact hw))
    show ∃ E' ∈ (if v.2 = w.2 then [] else x_alt E .lt v w ++ x_alt E .gt v w), x_env ρ E'
    rw [if_neg hne]
    have hh : ¬ a = b := hh
    rcases Int.lt_or_gt_of_ne hh with g | g
    · obtain ⟨E', m, k⟩ := x_alt_ok h (c := .lt) hv hw ha hb (by decide) g
      exact ⟨E', List.mem_append_left _ m, k⟩
    · obtain ⟨E', m, k⟩ := x_alt_ok h (c := .gt) hv hw ha hb (by decide) g
      exact ⟨E', List.mem_append_right _ m, k⟩
  · obtain ⟨E', m, k⟩ := x_alt_ok h hv hw ha hb hc hh
    refine ⟨E', ?_, k⟩
    cases c <;> first | exact m | exact absurd rfl hc
theorem x_b32 (n : Int32) : -x_M ≤ n.toInt ∧ n.toInt ≤ x_M := by
  have := x_i32 n
  simp only [x_M]
  omega
theorem x_nz_ok {ρ : List Int} {E : xE} (h : x_env ρ E) {w : xV} {b : Int} (hw : x_ev ρ w.2.1 w.2.2 b) (hz : x_nz E w = true) : b ≠ 0 := by
  have h2 := x_iv_ok h hw
  simp only [x_nz, Bool.or_eq_true, decide_eq_true_eq] at hz
  omega
/-- arrays -/
def x_arr (ρ : List Int) (n : Nat) (lo hi : Int) (ov : List (Nat × xV)) (g : Nat → Int) : Prop := ∀ j, j < n → match x_find ov j with
  | some v => x_ev ρ v.2.1 v.2.2 (g j)
  | none => lo ≤ g j ∧ g j ≤ hi
theorem x_arr.mono {ρ ρ' : List Int} {n : Nat} {lo hi : Int} {ov : List (Nat × xV)} {g : Nat → Int} (h : x_ext ρ ρ') (k : x_arr ρ n lo hi ov g) : x_arr ρ' n lo hi ov g := by
  intro j hj
  have := k j hj
  revert this
  cases x_find ov j with
  | none => exact id
  | some v => exact fun q => q.mono h
theorem x_clamp {i : Int32} {n : Nat} (h1 : 0 ≤ i.toInt) (h2 : i.toInt < n) : vp_in i n ∧ i.toNatClampNeg = i.toInt.toNat ∧ i.toInt.toNat < n := by
  refine ⟨vp_in_iff.mpr ⟨h1, h2⟩, ?_, by omega⟩
  rfl
end
section
/-! arrays, cells, heaps -/
theorem x_rdD_okI {ρ : List Int} {E : xE} (h : x_env ρ E) {lo hi : Int} {r : Int32} (h1 : lo ≤ r.toInt) (h2 : r.toInt ≤ hi) : x_resI ρ (x_rdD 0 E lo hi) r := by
  unfold x_rdD
  split
  next e => exact x_keepI h (show r.toInt = lo by omega)
  next => exact x_freshI h h1 h2
theorem x_rdD_okL {ρ : List Int} {E : xE} (h : x_env ρ E) {lo hi : Int} {r : Int64} (h1 : lo ≤ r.toInt) (h2 : r.toInt ≤ hi) : x_resL ρ (x_rdD 1 E lo hi) r := by
  unfold x_rdD
  split
  next e => exact x_keepL h (show r.toInt = lo by omega)
  next => exact x_freshL h h1 h2
theorem x_rd_okI {ρ : List Int} {E : xE} (h : x_env ρ E) {a : xA} {f : Nat → Int32} (ha : x_arr ρ a.2.1 a.2.2.1 a.2.2.2.1 a.2.2.2.2 (fun j => (f j).toInt)) {i : xV} {k : Int32} (hi : x_ev ρ i.2.1 i.2.2 k.toInt) {q : xV × xE} (hq : x_rd 0 E a i = some q) : vp_in k a.2.1 ∧ x_resI ρ q (f k.toNatClampNeg) := by
  have hb := x_iv_ok h hi
  unfold x_rd at hq
  split at hq
  next hr =>
    obtain ⟨c1, c2, c3⟩ := x_clamp (i := k) (n := a.2.1) (by omega) (by omega)
    refine ⟨c1, ?_⟩
    rw [c2]
    have hj := ha _ c3
    obtain ⟨t, bi, ci⟩ := i
    obtain ⟨ty, n, lo, hi', ov⟩ := a
    cases bi with
    | none =>
      have e : k.toInt = ci := hi
      rw [e] at hj ⊢
      simp only at hq hj
      cases hf : x_find ov ci.toNat with
      | none =>
        rw [hf] at hq hj
        cases hq
        exact x_rdD_okI h hj.1 hj.2
      | some v =>
        rw [hf] at hq hj
        cases hq
        exact x_keepI h hj
    | some s =>
      simp only at hq
      cases ov with
      | nil =>
        cases hq
        exact x_rdD_okI h hj.1 hj.2
      | cons _ _ =>
        cases hq
        exact x_top32_ok h _
  next => cases hq
theorem x_rd_okL {ρ : List Int} {E : xE} (h : x_env ρ E) {a : xA} {f : Nat → Int64} (ha : x_arr ρ a.2.1 a.2.2.1 a.2.2.2.1 a.2.2.2.2 (fun j => (f j).toInt)) {i : xV} {k : Int32} (hi : x_ev ρ i.2.1 i.2.2 k.toInt) {q : xV × xE} (hq : x_rd 1 E a i = some q) : vp_in k a.2.1 ∧ x_resL ρ q (f k.toNatClampNeg) := by
  have hb := x_iv_ok h hi
  unfold x_rd at hq
  split at hq
  next hr =>
    obtain ⟨c1, c2, c3⟩ := x_clamp (i := k) (n := a.2.1) (by omega) (by omega)
    refine ⟨c1, ?_⟩
    rw [c2]
    have hj := ha _ c3
    obtain ⟨t, bi, ci⟩ := i
    obtain ⟨ty, n, lo, hi', ov⟩ := a
    cases bi with
    | none =>
      have e : k.toInt = ci := hi
      rw [e] at hj ⊢
      simp only at hq hj
      cases hf : x_find ov ci.toNat with
      | none =>
        rw [hf] at hq hj
        cases hq
        exact x_rdD_okL h hj.1 hj.2
      | some v =>
        rw [hf] at hq hj
        cases hq
        exact x_keepL h hj
    | some s =>
      simp only at hq
      cases ov with
      | nil =>
        cases hq
        exact x_rdD_okL h hj.1 hj.2
      | cons _ _ =>
        cases hq
        exact x_top64_ok h _
  next => cases hq
/-- a place written; g the numbers ahead, g' behind -/
theorem x_wr_ok {ρ : List Int} {E : xE} (h : x_env ρ E) {t : Nat} {a b : xA} {g g' : Nat → Int} (ha : x_arr ρ a.2.1 a.2.2.1 a.2.2.2.1 a.2.2.2.2 g) {i v : xV} {k : Int32} {r : Int} (hi : x_ev ρ i.2.1 i.2.2 k.toInt) (hv : x_ev ρ v.2.1 v.2.2 r)
    (h1 : g' k.toNatClampNeg = r) (h2 : ∀ j, j ≠ k.toNatClampNeg → g' j = g j)
    (hg : ∀ j, j < a.2.1 → if t = 1 then -9223372036854775808 ≤ g' j ∧ g' j ≤ 9223372036854775807 else -2147483648 ≤ g' j ∧ g' j ≤ 2147483647) (hq : x_wr t E a i v = some b) : vp_in k a.2.1 ∧ b.1 = a.1 ∧ b.2.1 = a.2.1 ∧ x_arr ρ b.2.1 b.2.2.1 b.2.2.2.1 b.2.2.2.2 g' := by
  have hb := x_iv_ok h hi
  have hv' := x_iv_ok h hv
  unfold x_wr at hq
  split at hq
  next hr =>
    obtain ⟨c1, c2, c3⟩ := x_clamp (i := k) (n := a.2.1) (by omega) (by omega)
    refine ⟨c1, ?_⟩
    rw [c2] at h1 h2
    obtain ⟨tv, bi, ci⟩ := i
    obtain ⟨ty, n, lo, hi', ov⟩ := a
    cases bi with
    | none =>
      have e : k.toInt = ci := hi
      rw [e] at h1 h2 c3
      simp only at hq
      split at hq
      next hc =>
        cases hq
        refine ⟨rfl, rfl, fun j hj => ?_⟩
        by_cases hjk : j = ci.toNat
        · subst hjk
          show match x_find ov ci.toNat with
            | some v => x_ev ρ v.2.1 v.2.2 (g' ci.toNat)
            | none => lo ≤ g' ci.toNat ∧ g' ci.toNat ≤ hi'
          have e1 : x_find ov ci.toNat = none := hc.2.2.2
          rw [e1, h1]
          obtain ⟨tw, bw, cw⟩ := v
          have hc1 : lo = hi' := hc.1
          have hc2 : bw = none := hc.2.1
          have hc3 : cw = lo := hc.2.2.1
          subst hc2
          have hv : r = cw := hv
          show lo ≤ r ∧ r ≤ hi'
          omega
        · rw [h2 j hjk]
          exact ha j hj
      next hc =>
        cases hq
        refine ⟨rfl, rfl, fun j hj => ?_⟩
        show match x_find ((ci.toNat, v) :: ov) j with
            | some v => x_ev ρ v.2.1 v.2.2 (g' j)
            | none => lo ≤ g' j ∧ g' j ≤ hi'
        unfold x_find
        by_cases hjk : ci.toNat = j
        · rw [if_pos hjk]
          subst hjk
          show x_ev ρ v.2.1 v.2.2 (g' ci.toNat)
          rw [h1]
          exact hv
        · rw [if_neg hjk, h2 j (fun z => hjk z.symm)]
          exact ha j hj
    | some s =>
      simp only at hq
      cases ov with
      | nil =>
        cases hq
        refine ⟨rfl, rfl, fun j hj => ?_⟩
        show min lo (x_iv E v).1 ≤ g' j ∧ g' j ≤ max hi' (x_iv E v).2
        by_cases hjk : j = k.toInt.toNat
        · subst hjk
          rw [h1]
          omega
        · rw [h2 j hjk]
          have hh : lo ≤ g j ∧ g j ≤ hi' := ha j hj
          omega
      | cons _ _ =>
        simp only at hq
        split at hq
        next ht =>
          cases hq
          refine ⟨rfl, rfl, fun j hj => ?_⟩
          have := hg j hj
          rw [if_pos ht] at this
          exact this
        next ht =>
          cases hq
          refine ⟨rfl, rfl, fun j hj => ?_⟩
          have := hg j hj
          rw [if_neg ht] at this
          exact this
  next => cases hq
def x_cell (ρ : List Int) (ad : List Nat) (sc : Nat) (tys : List (ClassId × FieldType)) (c : xC) (e : va_E) : Prop := match c with
  | .inl a => match a.1 with
    | 0 => ∃ (cA : ClassId) (f : Nat → Int32), e = .inl (cA, a.2.1, .inl f) ∧ (∃ t : Nat, tys[t]? = some (cA, .int)) ∧ x_arr ρ a.2.1 a.2.2.1 a.2.2.2.1 a.2.2.2.2 (fun j => (f j).toInt)
    | 1 => ∃ (cA : ClassId) (f : Nat → Int64), e = .inl (cA, a.2.1, .inr (.inl f)) ∧ (∃ t : Nat, tys[t]? = some (cA, .long)) ∧ x_arr ρ a.2.1 a.2.2.1 a.2.2.2.1 a.2.2.2.2 (fun j => (f j).toInt)
    | _ => ∃ (cA : ClassId) (f : Nat → Int32), e = .inl (cA, a.2.1, .inl f) ∧ (∃ t : Nat, tys[t]? = some (cA, .boolean)) ∧ x_arr ρ a.2.1 a.2.2.1 a.2.2.2.1 a.2.2.2.2 (fun j => (f j).toInt)
  | .inr o => ∃ vs : List Value, e = .inr (o.1, vs) ∧ x_vals ρ ad sc o.2 vs
theorem x_cell.mono {ρ ρ' : List Int} {ad ad' : List Nat} {sc : Nat} {tys tys' : List (ClassId × FieldType)} {c : xC} {e : va_E} (h1 : x_ext ρ ρ') (h2 : x_ext ad ad') (h3 : x_ext tys tys') (h : x_cell ρ ad sc tys c e) : x_cell ρ' ad' sc tys' c e := by
  cases c with
  | inl a =>
    obtain ⟨t, r⟩ := a
    match t, h with
    | 0, ⟨cA, f, e1, ⟨k, hk⟩, g⟩ => exact ⟨cA, f, e1, ⟨k, h3.get hk⟩, g.mono h1⟩
    | 1, ⟨cA, f, e1, ⟨k, hk⟩, g⟩ => exact ⟨cA, f, e1, ⟨k, h3.get hk⟩, g.mono h1⟩
    | _ + 2, ⟨cA, f, e1, ⟨k, hk⟩, g⟩ => exact ⟨cA, f, e1, ⟨k, h3.get hk⟩, g.mono h1⟩
  | inr o =>
    obtain ⟨vs, e1, g⟩ := h
    exact ⟨vs, e1, g.mono h1 h2⟩
def x_heap (ρ : List Int) (ad : List Nat) (sc : Nat) (tys : List (ClassId × FieldType)) (h : List xC) (ws : va_W) : Prop :=
  ad = ws.map (·.1) ∧ ws.length = h.length ∧ ∀ (k : Nat) (c : xC) (q : Nat × va_E), h[k]? = some c → ws[k]? = some q → x_cell ρ ad sc tys c q.2
theorem x_heap.mono {ρ ρ' : List Int} {ad : List Nat} {sc : Nat} {tys tys' : List (ClassId × FieldType)} {h : List xC} {ws : va_W} (h1 : x_ext ρ ρ') (h3 : x_ext tys tys') (g : x_heap ρ ad sc tys h ws) : x_heap ρ' ad sc tys' h ws :=
  ⟨g.1, g.2.1, fun k c q e1 e2 => (g.2.2 k c q e1 e2).mono h1 (x_ext.rf _) h3⟩
/-- a cell by its number -/
theorem x_heap.at {ρ : List Int} {ad : List Nat} {sc : Nat} {tys : List (ClassId × FieldType)} {h : List xC} {ws : va_W} (g : x_heap ρ ad sc tys h ws) {k : Nat} {c : xC} {a : Nat} (hk : h[k]? = some c) (ha : ad[k]? = some a) : ∃ e, ws[k]? = some (a, e) ∧ x_cell ρ ad sc tys c e := by
  have hl : k < ws.length := by rw [g.2.1]; exact (List.getElem?_eq_some_iff.mp hk).1
  have he : ws[k]? = some ws[k] := List.getElem?_eq_getElem hl
  rw [g.1, List.getElem?_map, he] at ha
  have ha : some ws[k].1 = some a := ha
  refine ⟨ws[k].2, ?_, g.2.2 k c _ hk he⟩
  rw [he, ← Option.some.inj ha]
theorem x_heap.set {ρ : List Int} {ad : List Nat} {sc : Nat} {tys : List (ClassId × FieldType)} {h : List xC} {ws : va_W} (g : x_heap ρ ad sc tys h ws) {k a : Nat} {e e' : va_E} {c : xC} (hk : ws[k]? = some (a, e)) (hc : x_cell ρ ad sc tys c e') : x_heap ρ ad sc tys (h.set k c) (ws.set k (a, e')) := by
  have hl : k < ws.length := (List.getElem?_eq_some_iff.mp hk).1
  refine ⟨?_, by rw [List.length_set, List.length_set]; exact g.2.1, fun j d q e1 e2 => ?_⟩
  · rw [g.1]
    apply List.ext_getElem?
    intro j
    rw [List.getElem?_map, List.getElem?_map]
    by_cases hj : k = j
    · subst hj
      rw [List.getElem?_set_self hl, hk]
      rfl
    · rw [List.getElem?_set_ne hj]
  · by_cases hj : k = j
    · subst hj
      rw [List.getElem?_set_self hl] at e2
      rw [List.getElem?_set_self (by rw [← g.2.1]; exact hl)] at e1
      cases e1
      cases e2
      exact hc
    · rw [List.getElem?_set_ne hj] at e1 e2
      exact g.2.2 j d q e1 e2
theorem x_heap.push {ρ : List Int} {ad : List Nat} {sc : Nat} {tys : List (ClassId × FieldType)} {h : List xC} {ws : va_W} (g : x_heap ρ ad sc tys h ws) {a : Nat} {e : va_E} {c : xC} (hc : x_cell ρ (ad ++ [a]) sc tys c e) : x_heap ρ (ad ++ [a]) sc tys (h ++ [c]) (ws ++ [(a, e)]) := by
  refine ⟨by rw [g.1, List.map_append]; rfl, by simp [g.2.1], fun j d q e1 e2 => ?_⟩
  by_cases hj : j < h.length
  · rw [List.getElem?_append_left hj] at e1
    rw [List.getElem?_append_left (by rw [g.2.1]; exact hj)] at e2
    exact (g.2.2 j d q e1 e2).mono (x_ext.rf _) (x_ext.app _ _) (x_ext.rf _)
  · rw [List.getElem?_append_right (by omega)] at e1
    rw [List.getElem?_append_right (by rw [g.2.1]; omega)] at e2
    have hz : j - h.length < 1 := (List.getElem?_eq_some_iff.mp e1).1
    have e0 : j - h.length = 0 := by omega
    rw [e0] at e1
    rw [g.2.1, e0] at e2
    cases e1
    cases e2
    exact hc
theorem x_heap.adlen {ρ : List Int} {ad : List Nat} {sc : Nat} {tys : List (ClassId × FieldType)} {h : List xC} {ws : va_W} (g : x_heap ρ ad sc tys h ws) : ad.length = h.length := by rw [g.1, List.length_map]; exact g.2.1
end
section
/-! a frame's walk, instruction by instruction -/
def x_rel (D : va_G) (cl : List vw_C) (B0 sc : Nat) (s : State) (ρ : List Int) (ad : List Nat) (h : List xC) (E : xE) (H : Heap) (locs : List Loc) : Prop :=
  ∃ (ws : va_W) (tys : List (ClassId × FieldType)), va_K D cl tys s ∧ va_P D cl ws H ∧ va_D (fun q : Nat => B0 ≤ q) ws ∧ va_S (fun q : Nat => B0 ≤ q) s.heap H locs ∧ x_heap ρ ad sc tys h ws ∧ x_env ρ E
theorem x_rel.grow {D : va_G} {cl : List vw_C} {B0 sc : Nat} {s : State} {ρ ρ' : List Int} {ad : List Nat} {h : List xC} {E E' : xE} {H : Heap} {locs : List Loc} (g : x_rel D cl B0 sc s ρ ad h E H locs) (h1 : x_ext ρ ρ') (h2 : x_env ρ' E') : x_rel D cl B0 sc s ρ' ad h E' H locs := by
  obtain ⟨ws, tys, a1, a2, a3, a4, a5, a6⟩ := g
  exact ⟨ws, tys, a1, a2, a3, a4, a5.mono h1 (x_ext.rf _), h2⟩
theorem x_rel.env {D : va_G} {cl : List vw_C} {B0 sc : Nat} {s : State} {ρ : List Int} {ad : List Nat} {h : List xC} {E : xE} {H : Heap} {locs : List Loc} (g : x_rel D cl B0 sc s ρ ad h E H locs) : x_env ρ E := by
  obtain ⟨ws, tys, a1, a2, a3, a4, a5, a6⟩ := g
  exact a6
def x_frm (nL sc : Nat) (ρ : List Int) (ad : List Nat) (L : List (Nat × xV)) (st : List xV) (ls : Array Slot) (stc : List Value) : Prop :=
  ∃ lv : List (Nat × Value), lv_has ls nL lv ∧ x_locs ρ ad sc L lv ∧ x_vals ρ ad sc st stc
def x_OKs (p : Program) (l : Launch) (e : Env) (R : Room) (s : State) (mid : MethodId) (args : Array Value) (below : List Frame) (meth : Method) (c : Code) (Q : State → Prop) (D : va_G) (cl : List vw_C) (B0 sc nL : Nat) (ρ0 : List Int) (ad0 : List Nat)
    (pc : Nat) (L : List (Nat × xV)) (st : List xV) (cc ss : Nat) (h : List xC) (E : xE) : Prop :=
  ∀ (ρ : List Int) (ad : List Nat) (H : Heap) (locs : List Loc) (ls : Array Slot) (stc : List Value), x_ext ρ0 ρ → x_ext ad0 ad → x_rel D cl B0 sc s ρ ad h E H locs → x_frm nL sc ρ ad L st ls stc →
    W p l e R s mid args below meth c H locs cc ss Q (F0 mid pc ls stc)
section XW
variable {p : Program} {l : Launch} {e : Env} {R : Room} {s : State} {mid : MethodId} {args : Array Value} {below : List Frame} {meth : Method} {c : Code} {Q : State → Prop} {D : va_G} {cl : List vw_C} {B0 sc nL : Nat} {ρ0 : List Int} {ad0 : List Nat}
  {pc : Nat} {L : List (Nat × xV)} {st : List xV} {cc ss : Nat} {h : List xC} {E : xE} {cb : ByteArray}
/-- one more value on the stack, no other change: the row -/
theorem x_w_push {n : Nat} {v : xV} {x : Value} (row : ∀ {H : Heap} {locs : List Loc} {ls : Array Slot} {rest : List Value}, W p l e R s mid args below meth c H locs cc ss Q (F0 mid (pc + n) ls (x :: rest)) → W p l e R s mid args below meth c H locs cc ss Q (F0 mid pc ls rest))
    (hv : ∀ (ρ : List Int) (ad : List Nat), x_val ρ ad sc v x) (k : x_OKs p l e R s mid args below meth c Q D cl B0 sc nL ρ0 ad0 (pc + n) L (v :: st) cc ss h E) : x_OKs p l e R s mid args below meth c Q D cl B0 sc nL ρ0 ad0 pc L st cc ss h E := by
  intro ρ ad H locs ls stc e1 e2 hr hf
  obtain ⟨lv, h1, h2, h3⟩ := hf
  exact row (k ρ ad H locs ls (x :: stc) e1 e2 hr ⟨lv, h1, h2, hv ρ ad, h3⟩)
/-- a local is loaded -/
theorem x_w_load {n i : Nat} {v : xV} (hv : x_find L i = some v) (row : ∀ {x : Value} {ρ : List Int} {ad : List Nat} {H : Heap} {locs : List Loc} {ls : Array Slot} {rest : List Value}, x_val ρ ad sc v x → ls[i]? = some (.val x) → W p l e R s mid args below meth c H locs cc ss Q (F0 mid (pc + n) ls (x :: rest)) → W p l e R s mid args below meth c H locs cc ss Q (F0 mid pc ls rest))
    (k : x_OKs p l e R s mid args below meth c Q D cl B0 sc nL ρ0 ad0 (pc + n) L (v :: st) cc ss h E) : x_OKs p l e R s mid args below meth c Q D cl B0 sc nL ρ0 ad0 pc L st cc ss h E := by
  intro ρ ad H locs ls stc e1 e2 hr hf
  obtain ⟨lv, h1, h2, h3⟩ := hf
  obtain ⟨x, j, g1, g2⟩ := h2.find hv
  exact row g2 (lv_at h1 j g1) (k ρ ad H locs ls (x :: stc) e1 e2 hr ⟨lv, h1, h2, g2, h3⟩)
/-- a local is stored, one word -/
theorem x_w_store1 {n i : Nat} {v : xV} {r : List xV} (row : ∀ {x : Value} {ρ : List Int} {ad : List Nat} {H : Heap} {locs : List Loc} {ls : Array Slot} {rest : List Value} {lv lv' : List (Nat × Value)}, x_val ρ ad sc v x → lv_has ls nL lv → (i, x) :: lv.filter (fun q => !(q.1 == i) && !(q.1 + 1 == i && q.2.category == 2)) = lv' →
      (∀ ls' : Array Slot, lv_has ls' nL lv' → W p l e R s mid args below meth c H locs cc ss Q (F0 mid (pc + n) ls' rest)) → W p l e R s mid args below meth c H locs cc ss Q (F0 mid pc ls (x :: rest)))
    (k : x_OKs p l e R s mid args below meth c Q D cl B0 sc nL ρ0 ad0 (pc + n) (x_put1 L i v) r cc ss h E) : x_OKs p l e R s mid args below meth c Q D cl B0 sc nL ρ0 ad0 pc L (v :: r) cc ss h E := by
  intro ρ ad H locs ls stc e1 e2 hr hf
  obtain ⟨lv, h1, h2, h3⟩ := hf
  obtain ⟨x, ys, rfl, g1, g2⟩ := h3.cons
  exact row g1 h1 rfl (fun ls' h' => k ρ ad H locs ls' ys e1 e2 hr ⟨_, h', h2.put1 g1, g2⟩)
theorem x_w_store2 {n i : Nat} {v : xV} {r : List xV} (row : ∀ {x : Value} {ρ : List Int} {ad : List Nat} {H : Heap} {locs : List Loc} {ls : Array Slot} {rest : List Value} {lv lv' : List (Nat × Value)}, x_val ρ ad sc v x → lv_has ls nL lv → (i, x) :: lv.filter (fun q => !(q.1 == i) && (!(q.1 == i + 1) && !(q.1 + 1 == i && q.2.category == 2))) = lv' →
      (∀ ls' : Array Slot, lv_has ls' nL lv' → W p l e R s mid args below meth c H locs cc ss Q (F0 mid (pc + n) ls' rest)) → W p l e R s mid args below meth c H locs cc ss Q (F0 mid pc ls (x :: rest)))
    (k : x_OKs p l e R s mid args below meth c Q D cl B0 sc nL ρ0 ad0 (pc + n) (x_put2 L i v) r cc ss h E) : x_OKs p l e R s mid args below meth c Q D cl B0 sc nL ρ0 ad0 pc L (v :: r) cc ss h E := by
  intro ρ ad H locs ls stc e1 e2 hr hf
  obtain ⟨lv, h1, h2, h3⟩ := hf
  obtain ⟨x, ys, rfl, g1, g2⟩ := h3.cons
  exact row g1 h1 rfl (fun ls' h' => k ρ ad H locs ls' ys e1 e2 hr ⟨_, h', h2.put2 g1, g2⟩)
theorem x_w_iinc {i : Nat} {n : Int} {v : xV} (hx : p.tables.exec = Jvm.exec) (hb : c.code = cb) (hd : decode cb pc = .ok (.iinc i n, 3)) (hv : x_find L i = some v) (ht : v.1 = 0) (hn : i < nL)
    (k : x_OKs p l e R s mid args below meth c Q D cl B0 sc nL ρ0 ad0 (pc + 3) (x_put1 L i (x_addc E v (Int32.ofInt n).toInt).1) st cc ss h (x_addc E v (Int32.ofInt n).toInt).2) : x_OKs p l e R s mid args below meth c Q D cl B0 sc nL ρ0 ad0 pc L st cc ss h E := by
  intro ρ ad H locs ls stc e1 e2 hr hf
  obtain ⟨lv, h1, h2, h3⟩ := hf
  obtain ⟨x, j, g1, g2⟩ := h2.find hv
  obtain ⟨a, rfl, g3⟩ := g2.int ht
  obtain ⟨t0, ρ', x1, x2, x3⟩ := x_addc_ok (b := Int32.ofInt n) hr.env g3
  refine lv_iinc (v := a + Int32.ofInt n) hx hb hd h1 (k := j) g1 rfl hn rfl (fun ls' h' => ?_)
  exact k ρ' ad H locs ls' stc (e1.tr x1) e2 (hr.grow x1 x2) ⟨_, h', (h2.mono x1 (x_ext.rf _)).put1 (x_val.mkI t0 x3), h3.mono x1 (x_ext.rf _)⟩
/-- two ints give an int -/
theorem x_w_op2 {v w : xV} {r : List xV} (f : xE → xV → xV → xV × xE) (op : Int32 → Int32 → Int32) (hf : ∀ {ρ : List Int} {a b : Int32}, x_env ρ E → x_ev ρ v.2.1 v.2.2 a.toInt → x_ev ρ w.2.1 w.2.2 b.toInt → x_resI ρ (f E v w) (op a b))
    (row : ∀ {x y : Int32} {ρ : List Int} {H : Heap} {locs : List Loc} {ls : Array Slot} {rest : List Value}, x_env ρ E → x_ev ρ w.2.1 w.2.2 y.toInt → W p l e R s mid args below meth c H locs cc ss Q (F0 mid (pc + 1) ls (.int (op x y) :: rest)) → W p l e R s mid args below meth c H locs cc ss Q (F0 mid pc ls (.int y :: .int x :: rest)))
    (hv : v.1 = 0) (hw : w.1 = 0) (k : x_OKs p l e R s mid args below meth c Q D cl B0 sc nL ρ0 ad0 (pc + 1) L ((f E v w).1 :: r) cc ss h (f E v w).2) : x_OKs p l e R s mid args below meth c Q D cl B0 sc nL ρ0 ad0 pc L (w :: v :: r) cc ss h E := by
  intro ρ ad H locs ls stc e1 e2 hr hfr
  obtain ⟨lv, h1, h2, h3⟩ := hfr
  obtain ⟨y, ys, rfl, g1, h4⟩ := h3.cons
  obtain ⟨x, zs, rfl, g2, h5⟩ := h4.cons
  obtain ⟨b, rfl, gb⟩ := g1.int hw
  obtain ⟨a, rfl, ga⟩ := g2.int hv
  obtain ⟨t0, ρ', x1, x2, x3⟩ := hf hr.env ga gb
  exact row hr.env gb (k ρ' ad H locs ls _ (e1.tr x1) e2 (hr.grow x1 x2) ⟨lv, h1, h2.mono x1 (x_ext.rf _), x_val.mkI t0 x3, h5.mono x1 (x_ext.rf _)⟩)
/-- two longs give a long -/
theorem x_w_opL {v w : xV} {r : List xV} (f : xE → xV → xV → xV × xE) (op : Int64 → Int64 → Int64) (hf : ∀ {ρ : List Int} {a b : Int64}, x_env ρ E → x_ev ρ v.2.1 v.2.2 a.toInt → x_ev ρ w.2.1 w.2.2 b.toInt → x_resL ρ (f E v w) (op a b))
    (row : ∀ {x y : Int64} {ρ : List Int} {H : Heap} {locs : List Loc} {ls : Array Slot} {rest : List Value}, x_env ρ E → x_ev ρ w.2.1 w.2.2 y.toInt → W p l e R s mid args below meth c H locs cc ss Q (F0 mid (pc + 1) ls (.long (op x y) :: rest)) → W p l e R s mid args below meth c H locs cc ss Q (F0 mid pc ls (.long y :: .long x :: rest)))
    (hv : v.1 = 1) (hw : w.1 = 1) (k : x_OKs p l e R s mid args below meth c Q D cl B0 sc nL ρ0 ad0 (pc + 1) L ((f E v w).1 :: r) cc ss h (f E v w).2) : x_OKs p l e R s mid args below meth c Q D cl B0 sc nL ρ0 ad0 pc L (w :: v :: r) cc ss h E := by
  intro ρ ad H locs ls stc e1 e2 hr hfr
  obtain ⟨lv, h1, h2, h3⟩ := hfr
  obtain ⟨y, ys, rfl, g1, h4⟩ := h3.cons
  obtain ⟨x, zs, rfl, g2, h5⟩ := h4.cons
  obtain ⟨b, rfl, gb⟩ := g1.long hw
  obtain ⟨a, rfl, ga⟩ := g2.long hv
  obtain ⟨t0, ρ', x1, x2, x3⟩ := hf hr.env ga gb
  exact row hr.env gb (k ρ' ad H locs ls _ (e1.tr x1) e2 (hr.grow x1 x2) ⟨lv, h1, h2.mono x1 (x_ext.rf _), x_val.mkL t0 x3, h5.mono x1 (x_ext.rf _)⟩)
theorem x_w_opS {v w : xV} {r : List xV} (f : xE → xV → xV → xV × xE) (op : Int64 → Int32 → Int64) (hf : ∀ {ρ : List Int} {a : Int64} {b : Int32}, x_env ρ E → x_ev ρ v.2.1 v.2.2 a.toInt → x_ev ρ w.2.1 w.2.2 b.toInt → x_resL ρ (f E v w) (op a b))
    (row : ∀ {x : Int64} {y : Int32} {H : Heap} {locs : List Loc} {ls : Array Slot} {rest : List Value}, W p l e R s mid args below meth c H locs cc ss Q (F0 mid (pc + 1) ls (.long (op x y) :: rest)) → W p l e R s mid args below meth c H locs cc ss Q (F0 mid pc ls (.int y :: .long x :: rest)))
    (hv : v.1 = 1) (hw : w.1 = 0) (k : x_OKs p l e R s mid args below meth c Q D cl B0 sc nL ρ0 ad0 (pc + 1) L ((f E v w).1 :: r) cc ss h (f E v w).2) : x_OKs p l e R s mid args below meth c Q D cl B0 sc nL ρ0 ad0 pc L (w :: v :: r) cc ss h E := by
  intro ρ ad H locs ls stc e1 e2 hr hfr
  obtain ⟨lv, h1, h2, h3⟩ := hfr
  obtain ⟨y, ys, rfl, g1, h4⟩ := h3.cons
  obtain ⟨x, zs, rfl, g2, h5⟩ := h4.cons
  obtain ⟨b, rfl, gb⟩ := g1.int hw
  obtain ⟨a, rfl, ga⟩ := g2.long hv
  obtain ⟨t0, ρ', x1, x2, x3⟩ := hf hr.env ga gb
  exact row (k ρ' ad H locs ls _ (e1.tr x1) e2 (hr.grow x1 x2) ⟨lv, h1, h2.mono x1 (x_ext.rf _), x_val.mkL t0 x3, h5.mono x1 (x_ext.rf _)⟩)
theorem x_w_lcmp {v w : xV} {r : List xV} (hx : p.tables.exec = Jvm.exec) (hb : c.code = cb) (hd : decode cb pc = .ok (.lcmp, 1))
    (hv : v.1 = 1) (hw : w.1 = 1) (k : x_OKs p l e R s mid args below meth c Q D cl B0 sc nL ρ0 ad0 (pc + 1) L ((x_cmpL E v w).1 :: r) cc ss h (x_cmpL E v w).2) : x_OKs p l e R s mid args below meth c Q D cl B0 sc nL ρ0 ad0 pc L (w :: v :: r) cc ss h E := by
  intro ρ ad H locs ls stc e1 e2 hr hfr
  obtain ⟨lv, h1, h2, h3⟩ := hfr
  obtain ⟨y, ys, rfl, g1, h4⟩ := h3.cons
  obtain ⟨x, zs, rfl, g2, h5⟩ := h4.cons
  obtain ⟨b, rfl, gb⟩ := g1.long hw
  obtain ⟨a, rfl, ga⟩ := g2.long hv
  obtain ⟨t0, ρ', x1, x2, x3⟩ := x_cmpL_ok hr.env ga gb
  exact W.lcmp hx hb hd (k ρ' ad H locs ls _ (e1.tr x1) e2 (hr.grow x1 x2) ⟨lv, h1, h2.mono x1 (x_ext.rf _), x_val.mkI t0 x3, h5.mono x1 (x_ext.rf _)⟩)
theorem x_w_i2l {v : xV} {r : List xV} (hx : p.tables.exec = Jvm.exec) (hb : c.code = cb) (hd : decode cb pc = .ok (.i2l, 1)) (hv : v.1 = 0) (k : x_OKs p l e R s mid args below meth c Q D cl B0 sc nL ρ0 ad0 (pc + 1) L ((1, v.2) :: r) cc ss h E) : x_OKs p l e R s mid args below meth c Q D cl B0 sc nL ρ0 ad0 pc L (v :: r) cc ss h E := by
  intro ρ ad H locs ls stc e1 e2 hr hfr
  obtain ⟨lv, h1, h2, h3⟩ := hfr
  obtain ⟨y, ys, rfl, g1, h4⟩ := h3.cons
  obtain ⟨b, rfl, gb⟩ := g1.int hv
  exact lv_i2l hx hb hd rfl (k ρ ad H locs ls _ e1 e2 hr ⟨lv, h1, h2, x_val.mkL (v := (1, v.2)) rfl (x_i2l_ok gb), h4⟩)
theorem x_w_l2i {v : xV} {r : List xV} (hx : p.tables.exec = Jvm.exec) (hb : c.code = cb) (hd : decode cb pc = .ok (.l2i, 1)) (hv : v.1 = 1) (k : x_OKs p l e R s mid args below meth c Q D cl B0 sc nL ρ0 ad0 (pc + 1) L ((x_l2i E v).1 :: r) cc ss h (x_l2i E v).2) : x_OKs p l e R s mid args below meth c Q D cl B0 sc nL ρ0 ad0 pc L (v :: r) cc ss h E := by
  intro ρ ad H locs ls stc e1 e2 hr hfr
  obtain ⟨lv, h1, h2, h3⟩ := hfr
  obtain ⟨y, ys, rfl, g1, h4⟩ := h3.cons
  obtain ⟨b, rfl, gb⟩ := g1.long hv
  obtain ⟨t0, ρ', x1, x2, x3⟩ := x_l2i_ok hr.env gb
  exact lv_l2i hx hb hd rfl (k ρ' ad H locs ls _ (e1.tr x1) e2 (hr.grow x1 x2) ⟨lv, h1, h2.mono x1 (x_ext.rf _), x_val.mkI t0 x3, h4.mono x1 (x_ext.rf _)⟩)
theorem x_w_dup {v : xV} {r : List xV} (hx : p.tables.exec = Jvm.exec) (hb : c.code = cb) (hd : decode cb pc = .ok (.dup, 1)) (hv : x_cat v = 1) (k : x_OKs p l e R s mid args below meth c Q D cl B0 sc nL ρ0 ad0 (pc + 1) L (v :: v :: r) cc ss h E) : x_OKs p l e R s mid args below meth c Q D cl B0 sc nL ρ0 ad0 pc L (v :: r) cc ss h E := by
  intro ρ ad H locs ls stc e1 e2 hr hfr
  obtain ⟨lv, h1, h2, h3⟩ := hfr
  obtain ⟨y, ys, rfl, g1, h4⟩ := h3.cons
  exact lv_dup hx hb hd (by rw [g1.cat]; exact hv) (k ρ ad H locs ls _ e1 e2 hr ⟨lv, h1, h2, g1, g1, h4⟩)
theorem x_w_pop {v : xV} {r : List xV} (hx : p.tables.exec = Jvm.exec) (hb : c.code = cb) (hd : decode cb pc = .ok (.pop, 1)) (hv : x_cat v = 1) (k : x_OKs p l e R s mid args below meth c Q D cl B0 sc nL ρ0 ad0 (pc + 1) L r cc ss h E) : x_OKs p l e R s mid args below meth c Q D cl B0 sc nL ρ0 ad0 pc L (v :: r) cc ss h E := by
  intro ρ ad H locs ls stc e1 e2 hr hfr
  obtain ⟨lv, h1, h2, h3⟩ := hfr
  obtain ⟨y, ys, rfl, g1, h4⟩ := h3.cons
  exact lv_pop hx hb hd (by rw [g1.cat]; exact hv) (k ρ ad H locs ls _ e1 e2 hr ⟨lv, h1, h2, h4⟩)
theorem x_w_dup2 {v w : xV} {r : List xV} (hx : p.tables.exec = Jvm.exec) (hb : c.code = cb) (hd : decode cb pc = .ok (.dup2, 1)) (hv : x_cat v = 1) (hw : x_cat w = 1) (k : x_OKs p l e R s mid args below meth c Q D cl B0 sc nL ρ0 ad0 (pc + 1) L (v :: w :: v :: w :: r) cc ss h E) : x_OKs p l e R s mid args below meth c Q D cl B0 sc nL ρ0 ad0 pc L (v :: w :: r) cc ss h E := by
  intro ρ ad H locs ls stc e1 e2 hr hfr
  obtain ⟨lv, h1, h2, h3⟩ := hfr
  obtain ⟨y, ys, rfl, g1, h4⟩ := h3.cons
  obtain ⟨z, zs, rfl, g2, h5⟩ := h4.cons
  exact lv_dup2_11 hx hb hd (by rw [g1.cat]; exact hv) (by rw [g2.cat]; exact hw) (k ρ ad H locs ls _ e1 e2 hr ⟨lv, h1, h2, g1, g2, g1, g2, h5⟩)
theorem x_w_goto {off : Int} (hx : p.tables.exec = Jvm.exec) (hb : c.code = cb) (hd : decode cb pc = .ok (.goto off, 3)) (ht : 0 ≤ (pc : Int) + off) (k : x_OKs p l e R s mid args below meth c Q D cl B0 sc nL ρ0 ad0 ((pc : Int) + off).toNat L st cc ss h E) : x_OKs p l e R s mid args below meth c Q D cl B0 sc nL ρ0 ad0 pc L st cc ss h E := by
  intro ρ ad H locs ls stc e1 e2 hr hfr
  exact lv_goto hx hb hd (by omega) (k ρ ad H locs ls stc e1 e2 hr hfr)
theorem x_w_br {cn : ClassFile.Cond} {v w : xV} {r : List xV} {tgt : Nat} (hv : v.1 = 0) (hw : w.1 = 0) {st0 : List xV} (hst : ∀ {ρ : List Int} {ad : List Nat} {stc : List Value}, x_vals ρ ad sc st0 stc → ∃ x y rest, (x_vals ρ ad sc r rest ∧ x_val ρ ad sc v x ∧ x_val ρ ad sc w y) ∧
      ∀ {H : Heap} {locs : List Loc} {ls : Array Slot} {a b : Int32}, x = .int a → y = .int b → (x_holds cn a.toInt b.toInt → W p l e R s mid args below meth c H locs cc ss Q (F0 mid tgt ls rest)) → (¬ x_holds cn a.toInt b.toInt → W p l e R s mid args below meth c H locs cc ss Q (F0 mid (pc + 3) ls rest)) → W p l e R s mid args below meth c H locs cc ss Q (F0 mid pc ls stc))
    (kt : ∀ E' ∈ x_alts E cn v w, x_OKs p l e R s mid args below meth c Q D cl B0 sc nL ρ0 ad0 tgt L r cc ss h E') (kf : ∀ E' ∈ x_alts E (x_neg cn) v w, x_OKs p l e R s mid args below meth c Q D cl B0 sc nL ρ0 ad0 (pc + 3) L r cc ss h E') : x_OKs p l e R s mid args below meth c Q D cl B0 sc nL ρ0 ad0 pc L st0 cc ss h E := by
  intro ρ ad H locs ls stc e1 e2 hr hfr
  obtain ⟨lv, h1, h2, h3⟩ := hfr
  obtain ⟨x, y, rest, ⟨g0, g1, g2⟩, row⟩ := hst h3
  obtain ⟨a, rfl, ga⟩ := g1.int hv
  obtain ⟨b, rfl, gb⟩ := g2.int hw
  refine row rfl rfl (fun hc => ?_) (fun hc => ?_)
  · obtain ⟨E', m, k⟩ := x_alts_ok hr.env ga gb (x_b32 a) (x_b32 b) hc
    exact kt E' m ρ ad H locs ls rest e1 e2 (hr.grow (x_ext.rf _) k) ⟨lv, h1, h2, g0⟩
  · obtain ⟨E', m, k⟩ := x_alts_ok hr.env ga gb (x_b32 a) (x_b32 b) (x_neg_ok hc)
    exact kf E' m ρ ad H locs ls rest e1 e2 (hr.grow (x_ext.rf _) k) ⟨lv, h1, h2, g0⟩
theorem x_le32 {a b : Int32} : a ≤ b ↔ ¬ b.toInt < a.toInt := by rw [Int32.le_iff_toInt_le]; omega
theorem x_w_icmp {cn : ClassFile.Cond} {off : Int} {v w : xV} {r : List xV} (hx : p.tables.exec = Jvm.exec) (hb : c.code = cb) (hd : decode cb pc = .ok (.if_icmp cn off, 3)) (ht : 0 ≤ (pc : Int) + off) (hv : v.1 = 0) (hw : w.1 = 0)
    (kt : ∀ E' ∈ x_alts E cn v w, x_OKs p l e R s mid args below meth c Q D cl B0 sc nL ρ0 ad0 ((pc : Int) + off).toNat L r cc ss h E') (kf : ∀ E' ∈ x_alts E (x_neg cn) v w, x_OKs p l e R s mid args below meth c Q D cl B0 sc nL ρ0 ad0 (pc + 3) L r cc ss h E') : x_OKs p l e R s mid args below meth c Q D cl B0 sc nL ρ0 ad0 pc L (w :: v :: r) cc ss h E := by
  refine x_w_br hv hw (fun {ρ ad stc} h3 => ?_) kt kf
  obtain ⟨y, ys, rfl, g1, h4⟩ := h3.cons
  obtain ⟨x, zs, rfl, g2, h5⟩ := h4.cons
  refine ⟨x, y, zs, ⟨h5, g2, g1⟩, fun {H locs ls a b} ea eb k1 k2 => ?_⟩
  subst ea
  subst eb
  have ht' : (pc : Int) + off = (((pc : Int) + off).toNat : Int) := by omega
  cases cn with
  | eq => exact lv_icmp_eq hx hb hd ht' (fun q => k1 (by rw [q]; exact rfl)) (fun q => k2 (fun z => q (Int32.toInt_inj.mp z)))
  | ne => exact lv_icmp_ne hx hb hd ht' (fun q => k1 (fun z => q (Int32.toInt_inj.mp z))) (fun q => k2 (fun z => z (by rw [q])))
  | lt => exact lv_icmp_lt hx hb hd ht' (fun q => k1 (Int32.lt_iff_toInt_lt.mp q)) (fun q => k2 (fun z => q (Int32.lt_iff_toInt_lt.mpr z)))
  | ge => exact lv_icmp_ge hx hb hd ht' (fun q => k1 (x_le32.mp q)) (fun q => k2 (fun z => q (x_le32.mpr z)))
  | gt => exact lv_icmp_gt hx hb hd ht' (fun q => k1 (Int32.lt_iff_toInt_lt.mp q)) (fun q => k2 (fun z => q (Int32.lt_iff_toInt_lt.mpr z)))
  | le => exact lv_icmp_le hx hb hd ht' (fun q => k1 (x_le32.mp q)) (fun q => k2 (fun z => q (x_le32.mpr z)))
theorem x_w_ifc {cn : ClassFile.Cond} {off : Int} {v : xV} {r : List xV} (hx : p.tables.exec = Jvm.exec) (hb : c.code = cb) (hd : decode cb pc = .ok (.ifCond cn off, 3)) (ht : 0 ≤ (pc : Int) + off) (hv : v.1 = 0)
    (kt : ∀ E' ∈ x_alts E cn v (0, none, 0), x_OKs p l e R s mid args below meth c Q D cl B0 sc nL ρ0 ad0 ((pc : Int) + off).toNat L r cc ss h E') (kf : ∀ E' ∈ x_alts E (x_neg cn) v (0, none, 0), x_OKs p l e R s mid args below meth c Q D cl B0 sc nL ρ0 ad0 (pc + 3) L r cc ss h E') : x_OKs p l e R s mid args below meth c Q D cl B0 sc nL ρ0 ad0 pc L (v :: r) cc ss h E := by
  refine x_w_br (w := (0, none, 0)) hv rfl (fun {ρ ad stc} h3 => ?_) kt kf
  obtain ⟨x, zs, rfl, g2, h4⟩ := h3.cons
  refine ⟨x, .int 0, zs, ⟨h4, g2, ⟨0, rfl, rfl⟩⟩, fun {H locs ls a b} ea eb k1 k2 => ?_⟩
  subst ea
  cases eb
  have ht' : (pc : Int) + off = (((pc : Int) + off).toNat : Int) := by omega
  cases cn with
  | eq => exact lv_if_eq hx hb hd ht' (fun q => k1 (by rw [q]; exact rfl)) (fun q => k2 (fun z => q (Int32.toInt_inj.mp z)))
  | ne => exact lv_if_ne hx hb hd ht' (fun q => k1 (fun z => q (Int32.toInt_inj.mp z))) (fun q => k2 (fun z => z (by rw [q])))
  | lt => exact lv_if_lt hx hb hd ht' (fun q => k1 (Int32.lt_iff_toInt_lt.mp q)) (fun q => k2 (fun z => q (Int32.lt_iff_toInt_lt.mpr z)))
  | ge => exact lv_if_ge hx hb hd ht' (fun q => k1 (x_le32.mp q)) (fun q => k2 (fun z => q (x_le32.mpr z)))
  | gt => exact lv_if_gt hx hb hd ht' (fun q => k1 (Int32.lt_iff_toInt_lt.mp q)) (fun q => k2 (fun z => q (Int32.lt_iff_toInt_lt.mpr z)))
  | le => exact lv_if_le hx hb hd ht' (fun q => k1 (x_le32.mp q)) (fun q => k2 (fun z => q (x_le32.mpr z)))
end XW
end
section
/-! what the tables say, and the instructions that touch cells -/
def x_tbl : List Cond := lw_tbl.filter goodWord
def x_isNest : Cond → Bool
  | .methodLinkNest .. => true
  | _ => false
def x_nest : List Cond := lw_tbl.filter x_isNest
def x_tyk (k : Nat) (ty : FieldType) : Prop := match k with
  | 0 => ty = .int
  | 1 => ty = .long
  | 2 => (∃ n, ty = .object n) ∨ ∃ t, ty = .array t
  | 3 => ty = .boolean
  | _ => False
def x_rtk (k : Nat) (ty : Option FieldType) : Prop := match k with
  | 0 => ty = none
  | 1 => ty = some .int
  | 2 => ty = some .boolean
  | 3 => ty = some .long
  | _ => True
/-- a class of the worlds -/
def x_okc (P : xP) (ci : Nat) (q : vw_C) : Prop := (∀ w ∈ u_ws q.1 q.2.1 q.2.2, w ∈ x_tbl) ∧ q.2.2 = (x_cls P ci).length ∧ (∀ a, a < q.2.2 → ∀ b, b < q.2.2 → a ≠ b → (q.2.1 a).2.1 ≠ (q.2.1 b).2.1) ∧
  ∃ ty : Nat → FieldType, (∀ k, k < q.2.2 → parseFieldDescriptor (q.2.1 k).2.2.1 = some (ty k)) ∧ ∀ (k kd : Nat), (x_cls P ci)[k]? = some kd → x_tyk (kd % 10) (ty k) ∧ (q.2.1 k).2.2.2 = decide (10 ≤ kd) ∧ (q.2.1 k).1 = q.1
def x_okm (P : xP) (j : Nat) : Prop := Cond.code (x_nm P j) (x_by P j) (x_maxL P j) (x_rt P j) ∈ x_tbl ∧ Cond.initialized (x_nm P j).cls ∈ x_tbl ∧ plainName (x_nm P j).cls = true ∧ ((x_nm P j).cls ≠ "java/lang/invoke/MethodHandle" ∧ (x_nm P j).cls ≠ "java/lang/invoke/VarHandle") ∧ x_rtk (x_retk P j) (x_rt P j) ∧ j ≠ 0
def x_oka (P : xP) (j : Nat) (n : Int) : Prop := (parseMethodDescriptor (x_nm P j).desc).map (fun d => d.parameters.length) = some n.toNat
def x_okp (cl : List vw_C) (P : xP) (own : String) (idx : Nat) (q : Nat × Nat × Int) : Prop := match q.1 with
  | 1 => ∃ C : vw_C, cl[q.2.1]? = some C ∧ q.2.2.toNat < C.2.2 ∧ Cond.fieldLink own idx (C.2.1 q.2.2.toNat).1 (C.2.1 q.2.2.toNat).2.1 (C.2.1 q.2.2.toNat).2.2.1 ∈ x_tbl
  | 2 => x_okm P q.2.1 ∧ x_oka P q.2.1 q.2.2 ∧ Cond.methodLink own idx (x_nm P q.2.1) ∈ x_tbl ∧ Cond.instanceMethod (x_nm P q.2.1) ∈ x_tbl ∧ Cond.selects (x_nm P q.2.1).cls (x_nm P q.2.1) (x_nm P q.2.1) ∈ x_tbl ∧ ∃ C : vw_C, cl[x_mci P q.2.1]? = some C ∧ C.1 = (x_nm P q.2.1).cls
  | 3 => x_okm P q.2.1 ∧ x_oka P q.2.1 q.2.2 ∧ Cond.methodLink own idx (x_nm P q.2.1) ∈ x_tbl ∧ Cond.instanceMethod (x_nm P q.2.1) ∈ x_tbl ∧ (x_nm P q.2.1).name = "<init>" ∧ x_rt P q.2.1 = none
  | 4 => x_okm P q.2.1 ∧ x_oka P q.2.1 q.2.2 ∧ (∃ host : String, Cond.methodLinkNest own idx (x_nm P q.2.1) host ∈ x_nest) ∧ Cond.instanceMethod (x_nm P q.2.1) ∈ x_tbl ∧ (x_nm P q.2.1).name = "<init>" ∧ x_rt P q.2.1 = none
  | 5 => Cond.methodLink own idx objectInit ∈ x_tbl ∧ Cond.instanceMethod objectInit ∈ x_tbl ∧ Cond.code objectInit ⟨#[0xb1]⟩ 1 none ∈ x_tbl
  | 6 => x_okm P q.2.1 ∧ x_oka P q.2.1 q.2.2 ∧ Cond.methodLink own idx (x_nm P q.2.1) ∈ x_tbl ∧ Cond.static (x_nm P q.2.1) ∈ x_tbl
  | 7 => ∃ v : Int32, Cond.constant own idx v ∈ x_tbl ∧ v.toInt = q.2.2
  | 8 => ∃ v : Int64, Cond.constantLong own idx v ∈ x_tbl ∧ v.toInt = q.2.2
  | 9 => ∃ C : vw_C, cl[q.2.1]? = some C ∧ Cond.classLink own idx C.1 ∈ x_tbl ∧ Cond.instantiable C.1 C.2.2 ∈ x_tbl ∧ Cond.initialized C.1 ∈ x_tbl
  | 10 => Cond.methodLink own idx arraycopyName ∈ x_tbl ∧ Cond.native arraycopyName ∈ x_tbl ∧ Cond.static arraycopyName ∈ x_tbl ∧ Cond.initialized "java/lang/System" ∈ x_tbl
  | _ => True
def x_OK (cl : List vw_C) (P : xP) : Prop := (∀ (m pc : Nat) (i : Instr) (len : Nat), x_code P m pc = some (i, len) → decode (x_by P m) pc = .ok (i, len)) ∧ (∀ (ci : Nat) (q : vw_C), cl[ci]? = some q → x_okc P ci q) ∧
  (∀ m idx : Nat, x_okp cl P (x_nm P m).cls idx (x_pool P m idx)) ∧ Cond.arrayClass .int ∈ x_tbl ∧ Cond.arrayClass .long ∈ x_tbl ∧ Cond.arrayClass .boolean ∈ x_tbl ∧ ∀ (m : Nat) (C : vw_C), (x_nm P m).name = "<init>" → cl[x_mci P m]? = some C → C.1 = (x_nm P m).cls
theorem x_fit_ok {ρ : List Int} {ad : List Nat} {sc : Nat} {E : xE} {kd : Nat} {v : xV} {x : Value} {ty : FieldType} (hE : x_env ρ E) (hv : x_val ρ ad sc v x) (hf : x_fit E kd v = true) (ht : x_tyk (kd % 10) ty) : narrow ty x = x ∧ fits ty x = true := by
  unfold x_fit at hf
  generalize kd % 10 = k at hf ht
  match k, hf, ht with
  | 0, hf, ht =>
    have ht : ty = .int := ht
    obtain ⟨n, rfl, -⟩ := hv.int (by simpa using hf)
    subst ht
    exact ⟨rfl, rfl⟩
  | 1, hf, ht =>
    have ht : ty = .long := ht
    obtain ⟨n, rfl, -⟩ := hv.long (by simpa using hf)
    subst ht
    exact ⟨rfl, rfl⟩
  | 2, hf, ht =>
    obtain ⟨t, b, c⟩ := v
    have ht : (∃ n, ty = .object n) ∨ ∃ t, ty = .array t := ht
    simp only [Bool.or_eq_true, beq_iff_eq] at hf
    have hx : x = .null ∨ ∃ a, x = .ref a := by
      rcases hf with h1 | h1
      · subst h1; exact Or.inl hv
      · subst h1; obtain ⟨a, h2, -⟩ := hv; exact Or.inr ⟨a, h2⟩
    rcases ht with ⟨n, rfl⟩ | ⟨n, rfl⟩ <;> rcases hx with rfl | ⟨a, rfl⟩ <;> exact ⟨rfl, rfl⟩
  | 3, hf, ht =>
    have ht : ty = .boolean := ht
    simp only [Bool.and_eq_true, beq_iff_eq, decide_eq_true_eq] at hf
    obtain ⟨n, rfl, g⟩ := hv.int hf.1.1
    have hb := x_iv_ok hE g
    subst ht
    have h01 : n = 0 ∨ n = 1 := by
      have : n.toInt = 0 ∨ n.toInt = 1 := by omega
      rcases this with q | q
      · exact Or.inl (Int32.toInt_inj.mp q)
      · exact Or.inr (Int32.toInt_inj.mp q)
    rcases h01 with rfl | rfl <;> exact ⟨rfl, rfl⟩
  | _ + 4, hf, _ => cases hf
section XC
variable {p : Program} {l : Launch} {e : Env} {R : Room} {s : State} {mid : MethodId} {args : Array Value} {below : List Frame} {meth : Method} {c : Code} {Q : State → Prop} {D : va_G} {cl : List vw_C} {B0 sc nL : Nat} {ρ0 : List Int} {ad0 : List Nat}
  {pc : Nat} {L : List (Nat × xV)} {st : List xV} {cc ss : Nat} {h : List xC} {E : xE} {cb : ByteArray} {P : xP} {own : String}
theorem x_w_get {idx : Nat} {b : Option Nat} {k : Int} {r : List xV} {ci : Nat} {f : Int} {vs : List xV} {v : xV} (hx : p.tables.exec = Jvm.exec) (hb : c.code = cb) (hown : s.vm.findClass own = some mid.cls) (hts : ∀ w ∈ x_tbl, w.before args s = true) (hC : ∀ (ci : Nat) (q : vw_C), cl[ci]? = some q → x_okc P ci q) (hp : x_okp cl P own idx (1, ci, f))
    (hd : decode cb pc = .ok (.getfield idx, 3)) (ho : h[k.toNat]? = some (.inr (ci, vs))) (hv : vs[f.toNat]? = some v) (kk : x_OKs p l e R s mid args below meth c Q D cl B0 sc nL ρ0 ad0 (pc + 3) L (v :: r) cc ss h E) : x_OKs p l e R s mid args below meth c Q D cl B0 sc nL ρ0 ad0 pc L ((3, b, k) :: r) cc ss h E := by
  intro ρ ad H locs ls stc e1 e2 hr hfr
  obtain ⟨lv, h1, h2, h3⟩ := hfr
  obtain ⟨y, ys, rfl, g1, h4⟩ := h3.cons
  obtain ⟨a, rfl, ga⟩ := g1
  have hr0 := hr
  obtain ⟨ws, tys, aK, aP, aD, aS, aH, aE⟩ := hr
  obtain ⟨ev, w1, w2⟩ := aH.at ho ga
  obtain ⟨xs, rfl, w3⟩ := w2
  obtain ⟨x, w4, w5⟩ := w3.get hv
  obtain ⟨⟨C, T, N⟩, p1, p2, p3⟩ := hp
  obtain ⟨c1, -⟩ := hC ci (C, T, N) p1
  exact va_get hx hb hts c1 hown aK aP k.toNat w1 p1 f.toNat p2 (hts _ p3) (fun _ q => q) w4 hd (kk ρ ad H locs ls _ e1 e2 hr0 ⟨lv, h1, h2, w5, h4⟩)
theorem x_w_put {idx : Nat} {b : Option Nat} {k : Int} {r : List xV} {ci : Nat} {f : Int} {vs : List xV} {v : xV} {kd : Nat} (hx : p.tables.exec = Jvm.exec) (hb : c.code = cb) (hown : s.vm.findClass own = some mid.cls) (hts : ∀ w ∈ x_tbl, w.before args s = true) (hC : ∀ (ci : Nat) (q : vw_C), cl[ci]? = some q → x_okc P ci q) (hp : x_okp cl P own idx (1, ci, f))
    (hd : decode cb pc = .ok (.putfield idx, 3)) (ho : h[k.toNat]? = some (.inr (ci, vs))) (hl : f.toNat < vs.length) (hkd : (x_cls P ci)[f.toNat]? = some kd) (hfit : x_fit E kd v = true) (hfin : kd < 10 ∨ meth.name = "<init>" ∧ ∀ C : vw_C, cl[ci]? = some C → C.1 = own)
    (kk : x_OKs p l e R s mid args below meth c Q D cl B0 sc nL ρ0 ad0 (pc + 3) L r cc ss (h.set k.toNat (.inr (ci, vs.set f.toNat v))) E) : x_OKs p l e R s mid args below meth c Q D cl B0 sc nL ρ0 ad0 pc L (v :: (3, b, k) :: r) cc ss h E := by
  intro ρ ad H locs ls stc e1 e2 hr hfr
  obtain ⟨lv, h1, h2, h3⟩ := hfr
  obtain ⟨x, xs0, rfl, gx, h4⟩ := h3.cons
  obtain ⟨y, ys, rfl, g1, h5⟩ := h4.cons
  obtain ⟨a, rfl, ga⟩ := g1
  obtain ⟨ws, tys, aK, aP, aD, aS, aH, aE⟩ := hr
  obtain ⟨ev, w1, w2⟩ := aH.at ho ga
  obtain ⟨xs, rfl, w3⟩ := w2
  obtain ⟨⟨C, T, N⟩, p1, p2, p3⟩ := hp
  obtain ⟨c1, c2, c3, ty, c4, c5⟩ := hC ci (C, T, N) p1
  obtain ⟨c6, c7, c8⟩ := c5 f.toNat kd hkd
  obtain ⟨f1, f2⟩ := x_fit_ok aE gx hfit c6
  have hl' : f.toNat < xs.length := by rw [← w3.len]; exact hl
  rcases hfin with hfin | ⟨hin, hown2⟩
  · exact va_put hx hb hts c1 ty c4 c3 hown aK aP aD aS k.toNat w1 p1 f.toNat p2 (hts _ p3) (fun _ q => q) (by rw [c7]; simp; omega) (c4 _ p2) f1 f2 hl' hd
      (fun H1 locs1 hP hD hS => kk ρ ad H1 locs1 ls _ e1 e2 ⟨_, tys, aK, hP, hD, hS, aH.set w1 ⟨_, rfl, w3.set gx⟩, aE⟩ ⟨lv, h1, h2, h5⟩)
  · by_cases hk : kd < 10
    · exact va_put hx hb hts c1 ty c4 c3 hown aK aP aD aS k.toNat w1 p1 f.toNat p2 (hts _ p3) (fun _ q => q) (by rw [c7]; simp; omega) (c4 _ p2) f1 f2 hl' hd
        (fun H1 locs1 hP hD hS => kk ρ ad H1 locs1 ls _ e1 e2 ⟨_, tys, aK, hP, hD, hS, aH.set w1 ⟨_, rfl, w3.set gx⟩, aE⟩ ⟨lv, h1, h2, h5⟩)
    · exact va_putF hx hb hts c1 ty c4 c3 hown aK aP aD aS k.toNat w1 p1 f.toNat p2 (hts _ p3) (fun _ q => q) (by rw [c7]; simp; omega) hin (c8.trans (hown2 _ p1)) (c4 _ p2) f1 f2 hl' hd
        (fun H1 locs1 hP hD hS => kk ρ ad H1 locs1 ls _ e1 e2 ⟨_, tys, aK, hP, hD, hS, aH.set w1 ⟨_, rfl, w3.set gx⟩, aE⟩ ⟨lv, h1, h2, h5⟩)
theorem x_w_ald {i : xV} {b : Option Nat} {k : Int} {r : List xV} {a : xA} {q : xV × xE} {ty : Nat} {ins : Instr} (hx : p.tables.exec = Jvm.exec) (hb : c.code = cb) (hd : decode cb pc = .ok (ins, 1)) (hi : i.1 = 0) (hty : a.1 = ty) (ho : h[k.toNat]? = some (.inl a))
    (hcase : (ins = .iaload ∧ ty = 0 ∧ x_rd 0 E a i = some q) ∨ (ins = .laload ∧ ty = 1 ∧ x_rd 1 E a i = some q) ∨ (ins = .baload ∧ ty = 2 ∧ x_rd 0 E a i = some q))
    (kk : x_OKs p l e R s mid args below meth c Q D cl B0 sc nL ρ0 ad0 (pc + 1) L (q.1 :: r) cc ss h q.2) : x_OKs p l e R s mid args below meth c Q D cl B0 sc nL ρ0 ad0 pc L (i :: (3, b, k) :: r) cc ss h E := by
  intro ρ ad H locs ls stc e1 e2 hr hfr
  obtain ⟨lv, h1, h2, h3⟩ := hfr
  obtain ⟨x, xs0, rfl, gx, h4⟩ := h3.cons
  obtain ⟨y, ys, rfl, g1, h5⟩ := h4.cons
  obtain ⟨ad1, rfl, ga⟩ := g1
  obtain ⟨n, rfl, gn⟩ := gx.int hi
  have hr0 := hr
  obtain ⟨ws, tys, aK, aP, aD, aS, aH, aE⟩ := hr
  obtain ⟨ev, w1, w2⟩ := aH.at ho ga
  obtain ⟨t, nn, lo, hi', ov⟩ := a
  have hty : t = ty := hty
  subst hty
  rcases hcase with ⟨rfl, rfl, hq⟩ | ⟨rfl, rfl, hq⟩ | ⟨rfl, rfl, hq⟩
  · obtain ⟨cA, f, rfl, ⟨t0, ht⟩, w3⟩ := w2
    obtain ⟨v1, t1, ρ', x1, x2, x3⟩ := x_rd_okI aE w3 gn hq
    exact va_iald hx hb aK aP k.toNat t0 w1 ht v1 hd (kk ρ' ad H locs ls _ (e1.tr x1) e2 (hr0.grow x1 x2) ⟨lv, h1, h2.mono x1 (x_ext.rf _), x_val.mkI t1 x3, h5.mono x1 (x_ext.rf _)⟩)
  · obtain ⟨cA, f, rfl, ⟨t0, ht⟩, w3⟩ := w2
    obtain ⟨v1, t1, ρ', x1, x2, x3⟩ := x_rd_okL aE w3 gn hq
    exact va_lald hx hb aK aP k.toNat t0 w1 ht v1 hd (kk ρ' ad H locs ls _ (e1.tr x1) e2 (hr0.grow x1 x2) ⟨lv, h1, h2.mono x1 (x_ext.rf _), x_val.mkL t1 x3, h5.mono x1 (x_ext.rf _)⟩)
  · obtain ⟨cA, f, rfl, ⟨t0, ht⟩, w3⟩ := w2
    obtain ⟨v1, t1, ρ', x1, x2, x3⟩ := x_rd_okI aE w3 gn hq
    exact va_zald hx hb aK aP k.toNat t0 w1 ht v1 hd (kk ρ' ad H locs ls _ (e1.tr x1) e2 (hr0.grow x1 x2) ⟨lv, h1, h2.mono x1 (x_ext.rf _), x_val.mkI t1 x3, h5.mono x1 (x_ext.rf _)⟩)
theorem x_w_ast {v i : xV} {b : Option Nat} {k : Int} {r : List xV} {a a' : xA} {ty : Nat} {ins : Instr} (hx : p.tables.exec = Jvm.exec) (hb : c.code = cb) (hd : decode cb pc = .ok (ins, 1)) (hi : i.1 = 0) (hty : a.1 = ty) (ho : h[k.toNat]? = some (.inl a))
    (hcase : (ins = .iastore ∧ ty = 0 ∧ v.1 = 0 ∧ x_wr 0 E a i v = some a') ∨ (ins = .lastore ∧ ty = 1 ∧ v.1 = 1 ∧ x_wr 1 E a i v = some a') ∨ (ins = .bastore ∧ ty = 2 ∧ v.1 = 0 ∧ x_fit E 3 v = true ∧ x_wr 0 E a i v = some a'))
    (kk : x_OKs p l e R s mid args below meth c Q D cl B0 sc nL ρ0 ad0 (pc + 1) L r cc ss (h.set k.toNat (.inl a')) E) : x_OKs p l e R s mid args below meth c Q D cl B0 sc nL ρ0 ad0 pc L (v :: i :: (3, b, k) :: r) cc ss h E := by
  intro ρ ad H locs ls stc e1 e2 hr hfr
  obtain ⟨lv, h1, h2, h3⟩ := hfr
  obtain ⟨z, zs, rfl, gz, h4⟩ := h3.cons
  obtain ⟨x, xs0, rfl, gx, h5⟩ := h4.cons
  obtain ⟨y, ys, rfl, g1, h6⟩ := h5.cons
  obtain ⟨ad1, rfl, ga⟩ := g1
  obtain ⟨n, rfl, gn⟩ := gx.int hi
  obtain ⟨ws, tys, aK, aP, aD, aS, aH, aE⟩ := hr
  obtain ⟨ev, w1, w2⟩ := aH.at ho ga
  obtain ⟨t, nn, lo, hi', ov⟩ := a
  have hty : t = ty := hty
  subst hty
  rcases hcase with ⟨rfl, rfl, hv, hq⟩ | ⟨rfl, rfl, hv, hq⟩ | ⟨rfl, rfl, hv, hfz, hq⟩
  · obtain ⟨cA, f, rfl, ⟨t0, ht⟩, w3⟩ := w2
    obtain ⟨m, rfl, gm⟩ := gz.int hv
    obtain ⟨v1, q1, q2, q3⟩ := x_wr_ok aE (g' := fun j => (upd f n.toNatClampNeg m j).toInt) w3 gn gm (by simp [upd]) (fun j hj => by simp [upd, hj]) (fun j hj => by rw [if_neg (by decide)]; exact x_i32 _) hq
    obtain ⟨t', n', lo2, hi2, ov2⟩ := a'
    have q1 : t' = 0 := q1
    have q2 : n' = nn := q2
    subst q1
    subst q2
    exact va_iast hx hb aK aP aD aS k.toNat t0 w1 ht v1 hd (fun H1 locs1 hP hD hS => kk ρ ad H1 locs1 ls _ e1 e2 ⟨_, tys, aK, hP, hD, hS, aH.set w1 ⟨cA, _, rfl, ⟨t0, ht⟩, q3⟩, aE⟩ ⟨lv, h1, h2, h6⟩)
  · obtain ⟨cA, f, rfl, ⟨t0, ht⟩, w3⟩ := w2
    obtain ⟨m, rfl, gm⟩ := gz.long hv
    obtain ⟨v1, q1, q2, q3⟩ := x_wr_ok aE (g' := fun j => (vp_updL f n.toNatClampNeg m j).toInt) w3 gn gm (by simp [vp_updL]) (fun j hj => by simp [vp_updL, hj]) (fun j hj => by rw [if_pos rfl]; exact x_i64 _) hq
    obtain ⟨t', n', lo2, hi2, ov2⟩ := a'
    have q1 : t' = 1 := q1
    have q2 : n' = nn := q2
    subst q1
    subst q2
    exact va_last hx hb aK aP aD aS k.toNat t0 w1 ht v1 hd (fun H1 locs1 hP hD hS => kk ρ ad H1 locs1 ls _ e1 e2 ⟨_, tys, aK, hP, hD, hS, aH.set w1 ⟨cA, _, rfl, ⟨t0, ht⟩, q3⟩, aE⟩ ⟨lv, h1, h2, h6⟩)
  · obtain ⟨cA, f, rfl, ⟨t0, ht⟩, w3⟩ := w2
    have hfit := x_fit_ok (kd := 3) aE gz hfz (show x_tyk 3 .boolean from rfl)
    obtain ⟨m, rfl, gm⟩ := gz.int hv
    have hnar : vp_nar .boolean m = m := by
      unfold vp_nar
      rw [hfit.1]
    obtain ⟨v1, q1, q2, q3⟩ := x_wr_ok aE (g' := fun j => (upd f n.toNatClampNeg (vp_nar .boolean m) j).toInt) w3 gn gm (by simp [upd, hnar]) (fun j hj => by simp [upd, hj]) (fun j hj => by rw [if_neg (by decide)]; exact x_i32 _) hq
    obtain ⟨t', n', lo2, hi2, ov2⟩ := a'
    have q1 : t' = 2 := q1
    have q2 : n' = nn := q2
    subst q1
    subst q2
    exact va_zast hx hb aK aP aD aS k.toNat t0 w1 ht v1 hd (fun H1 locs1 hP hD hS => kk ρ ad H1 locs1 ls _ e1 e2 ⟨_, tys, aK, hP, hD, hS, aH.set w1 ⟨cA, _, rfl, ⟨t0, ht⟩, q3⟩, aE⟩ ⟨lv, h1, h2, h6⟩)
theorem x_w_alen {b : Option Nat} {k : Int} {r : List xV} {a : xA} (hx : p.tables.exec = Jvm.exec) (hb : c.code = cb) (hd : decode cb pc = .ok (.arraylength, 1)) (ho : h[k.toNat]? = some (.inl a)) (ha : a.1 < 3)
    (kk : x_OKs p l e R s mid args below meth c Q D cl B0 sc nL ρ0 ad0 (pc + 1) L ((0, none, (Int32.ofNat a.2.1).toInt) :: r) cc ss h E) : x_OKs p l e R s mid args below meth c Q D cl B0 sc nL ρ0 ad0 pc L ((3, b, k) :: r) cc ss h E := by
  intro ρ ad H locs ls stc e1 e2 hr hfr
  obtain ⟨lv, h1, h2, h3⟩ := hfr
  obtain ⟨y, ys, rfl, g1, h4⟩ := h3.cons
  obtain ⟨ad1, rfl, ga⟩ := g1
  have hr0 := hr
  obtain ⟨ws, tys, aK, aP, aD, aS, aH, aE⟩ := hr
  obtain ⟨ev, w1, w2⟩ := aH.at ho ga
  obtain ⟨t, nn, lo, hi', ov⟩ := a
  have fin : W p l e R s mid args below meth c H locs cc ss Q (F0 mid (pc + 1) ls (.int (Int32.ofNat nn) :: ys)) := kk ρ ad H locs ls _ e1 e2 hr0 ⟨lv, h1, h2, ⟨_, rfl, rfl⟩, h4⟩
  match t, ha, w2 with
  | 0, _, w2 =>
    obtain ⟨cA, f, rfl, ⟨t0, ht⟩, w3⟩ := w2
    exact va_alen hx hb aK aP k.toNat t0 w1 ht rfl hd fin
  | 1, _, w2 =>
    obtain ⟨cA, f, rfl, ⟨t0, ht⟩, w3⟩ := w2
    exact va_alen hx hb aK aP k.toNat t0 w1 ht rfl hd fin
  | 2, _, w2 =>
    obtain ⟨cA, f, rfl, ⟨t0, ht⟩, w3⟩ := w2
    exact va_alen hx hb aK aP k.toNat t0 w1 ht rfl hd fin
  | t + 3, ha, _ => exact absurd (show t + 3 < 3 from ha) (by omega)
theorem x_n32 {n : Int} (h0 : 0 ≤ n) (h1 : n ≤ 60000000) {m : Int32} (hm : m.toInt = n) : ¬ m < 0 ∧ m.toNatClampNeg = n.toNat := by
  refine ⟨fun q => ?_, ?_⟩
  · have := Int32.lt_iff_toInt_lt.mp q
    rw [hm] at this
    have z : (0 : Int32).toInt = 0 := rfl
    omega
  · show m.toInt.toNat = n.toNat
    rw [hm]
theorem x_arr0 {ρ : List Int} {n : Nat} {g : Nat → Int} (hg : ∀ j, g j = 0) : x_arr ρ n 0 0 [] g := fun j _ => by
  show (0 : Int) ≤ g j ∧ g j ≤ 0
  rw [hg j]
  exact ⟨Int.le_refl _, Int.le_refl _⟩
theorem x_w_newa {n : Int} {r : List xV} {ty : Nat} {at_ : ArrayType} (hx : p.tables.exec = Jvm.exec) (hb : c.code = cb) (hts : ∀ w ∈ x_tbl, w.before args s = true) (hI : Cond.arrayClass .int ∈ x_tbl) (hJ : Cond.arrayClass .long ∈ x_tbl) (hZ : Cond.arrayClass .boolean ∈ x_tbl) (hB : B0 ≤ s.heap.size)
    (hd : decode cb pc = .ok (.newarray at_, 2)) (hcase : at_ = .int ∧ ty = 0 ∨ at_ = .long ∧ ty = 1 ∨ at_ = .boolean ∧ ty = 2) (hn0 : 0 ≤ n) (hn1 : n ≤ 60000000) (hc : cc + 1 ≤ R.cells) (hs : ss + n.toNat ≤ R.slots)
    (kk : x_OKs p l e R s mid args below meth c Q D cl B0 sc nL ρ0 ad0 (pc + 2) L ((3, none, (h.length : Int)) :: r) (cc + 1) (ss + n.toNat) (h ++ [.inl (ty, n.toNat, 0, 0, [])]) E) : x_OKs p l e R s mid args below meth c Q D cl B0 sc nL ρ0 ad0 pc L ((0, none, n) :: r) cc ss h E := by
  intro ρ ad H locs ls stc e1 e2 hr hfr
  obtain ⟨lv, h1, h2, h3⟩ := hfr
  obtain ⟨y, ys, rfl, g1, h4⟩ := h3.cons
  obtain ⟨m, rfl, gm⟩ := g1
  have gm : m.toInt = n := gm
  obtain ⟨m1, m2⟩ := x_n32 hn0 hn1 gm
  obtain ⟨ws, tys, aK, aP, aD, aS, aH, aE⟩ := hr
  have hA : ∀ q, s.heap.size ≤ q → (fun q : Nat => B0 ≤ q) q := fun q z => Nat.le_trans hB z
  have go : ∀ (a0 : vp_A) (ty0 : FieldType), newarray.typeOf at_ = ty0 → Cond.arrayClass ty0 ∈ x_tbl → (∀ cA : ClassId, vp_cell cA a0 = arrV cA n.toNat (fun _ => defaultValue ty0)) → n.toNat * componentBytes ty0 ≤ 536870912 →
      (∀ (cA : ClassId) (q : Nat) (tys' : List (ClassId × FieldType)), tys'[tys.length]? = some (cA, ty0) → x_cell ρ (ad ++ [q]) sc tys' (.inl (ty, n.toNat, 0, 0, [])) (.inl (cA, a0))) → W p l e R s mid args below meth c H locs cc ss Q (F0 mid pc ls (.int m :: ys)) := by
    intro a0 ty0 hty hac hcell hby hx9
    refine va_newa hx hb (by rw [hty]; exact hts _ hac) hty aK aP aD aS hA hcell m1 m2 hby hc hs hd (fun q cA H1 hK hP hD hS => ?_)
    have hK' : x_ext tys (tys ++ [(cA, ty0)]) := x_ext.app _ _
    refine kk ρ (ad ++ [q]) H1 locs ls _ e1 (e2.tr (x_ext.app _ _)) ⟨_, _, hK, hP, hD, hS, (aH.mono (x_ext.rf _) hK').push (hx9 cA q _ (by rw [List.getElem?_append_right (Nat.le_refl _)]; simp)), aE⟩ ⟨lv, h1, h2.mono (x_ext.rf _) (x_ext.app _ _), ⟨q, rfl, ?_⟩, h4.mono (x_ext.rf _) (x_ext.app _ _)⟩
    show (ad ++ [q])[((h.length : Int)).toNat]? = some q
    rw [Int.toNat_natCast, ← aH.adlen, List.getElem?_append_right (Nat.le_refl _)]
    simp
  rcases hcase with ⟨rfl, rfl⟩ | ⟨rfl, rfl⟩ | ⟨rfl, rfl⟩
  · exact go (n.toNat, .inl (fun _ => 0)) .int rfl hI (fun _ => rfl) (by show n.toNat * 4 ≤ _; omega) (fun cA q tys' ht => ⟨cA, _, rfl, ⟨_, ht⟩, x_arr0 (fun _ => rfl)⟩)
  · exact go (n.toNat, .inr (.inl (fun _ => 0))) .long rfl hJ (fun _ => rfl) (by show n.toNat * 8 ≤ _; omega) (fun cA q tys' ht => ⟨cA, _, rfl, ⟨_, ht⟩, x_arr0 (fun _ => rfl)⟩)
  · exact go (n.toNat, .inl (fun _ => 0)) .boolean rfl hZ (fun _ => rfl) (by show n.toNat * 1 ≤ _; omega) (fun cA q tys' ht => ⟨cA, _, rfl, ⟨_, ht⟩, x_arr0 (fun _ => rfl)⟩)
theorem x_dflt_ok {k : Nat} {ty : FieldType} (h : x_tyk k ty) {ρ : List Int} {ad : List Nat} {sc : Nat} : x_val ρ ad sc (x_dflt k) (defaultValue ty) := by
  match k, h with
  | 0, h => cases (show ty = .int from h); exact ⟨0, rfl, rfl⟩
  | 1, h => cases (show ty = .long from h); exact ⟨0, rfl, rfl⟩
  | 2, h =>
    rcases (show (∃ n, ty = .object n) ∨ ∃ t, ty = .array t from h) with ⟨n, rfl⟩ | ⟨n, rfl⟩ <;> exact rfl
  | 3, h => cases (show ty = .boolean from h); exact ⟨0, rfl, rfl⟩
  | _ + 4, h => exact h.elim
theorem x_dflts {ρ : List Int} {ad : List Nat} {sc : Nat} (ty : Nat → FieldType) : ∀ (l : List Nat) (n : Nat), (∀ (k kd : Nat), l[k]? = some kd → x_tyk (kd % 10) (ty (n + k))) → x_vals ρ ad sc (l.map (fun k => x_dflt (k % 10))) ((List.range' n l.length).map (fun j => defaultValue (ty j)))
  | [], _, _ => trivial
  | a :: l, n, h => by
    show x_vals ρ ad sc (x_dflt (a % 10) :: l.map (fun k => x_dflt (k % 10))) (((List.range' n (l.length + 1)).map (fun j => defaultValue (ty j))))
    rw [List.range'_succ, List.map_cons]
    refine ⟨x_dflt_ok (h 0 a rfl), x_dflts ty l (n + 1) (fun k kd hk => ?_)⟩
    have := h (k + 1) kd (by simpa using hk)
    rw [show n + 1 + k = n + (k + 1) by omega]
    exact this
theorem x_w_new {idx ci : Nat} {z : Int} (hx : p.tables.exec = Jvm.exec) (hb : c.code = cb) (hown : s.vm.findClass own = some mid.cls) (hts : ∀ w ∈ x_tbl, w.before args s = true) (hC : ∀ (ci : Nat) (q : vw_C), cl[ci]? = some q → x_okc P ci q) (hp : x_okp cl P own idx (9, ci, z)) (hB : B0 ≤ s.heap.size)
    (hd : decode cb pc = .ok (.new idx, 3)) (hc : cc + 1 ≤ R.cells) (hs : ss + (x_cls P ci).length ≤ R.slots)
    (kk : x_OKs p l e R s mid args below meth c Q D cl B0 sc nL ρ0 ad0 (pc + 3) L ((3, none, (h.length : Int)) :: st) (cc + 1) (ss + (x_cls P ci).length) (h ++ [.inr (ci, (x_cls P ci).map (fun k => x_dflt (k % 10)))]) E) : x_OKs p l e R s mid args below meth c Q D cl B0 sc nL ρ0 ad0 pc L st cc ss h E := by
  intro ρ ad H locs ls stc e1 e2 hr hfr
  obtain ⟨lv, h1, h2, h3⟩ := hfr
  obtain ⟨ws, tys, aK, aP, aD, aS, aH, aE⟩ := hr
  obtain ⟨⟨C, T, N⟩, p1, p2, p3, p4⟩ := hp
  obtain ⟨c1, c2, c3, ty, c4, c5⟩ := hC ci (C, T, N) p1
  have c2 : N = (x_cls P ci).length := c2
  have hA : ∀ q, s.heap.size ≤ q → (fun q : Nat => B0 ≤ q) q := fun q z => Nat.le_trans hB z
  subst c2
  refine va_new (fs := (List.range' 0 (x_cls P ci).length).map (fun j => defaultValue (ty j))) hx hb hts c1 ty c4 hown (hts _ p2) (hts _ p3) (hts _ p4) aK aP aD aS hA p1 (fun j hj => ?_) hc hs hd (fun q H1 hP hD hS => ?_)
  · unfold vp_V
    rw [List.getD_eq_getElem?_getD, List.getElem?_map, List.getElem?_range' (by omega)]
    simp
  · refine kk ρ (ad ++ [q]) H1 locs ls _ e1 (e2.tr (x_ext.app _ _)) ⟨_, tys, aK, hP, hD, hS, aH.push ⟨_, rfl, x_dflts ty (x_cls P ci) 0 (fun k kd hk => by rw [Nat.zero_add]; exact (c5 k kd hk).1)⟩, aE⟩ ⟨lv, h1, h2.mono (x_ext.rf _) (x_ext.app _ _), ⟨q, rfl, ?_⟩, h3.mono (x_ext.rf _) (x_ext.app _ _)⟩
    show (ad ++ [q])[((h.length : Int)).toNat]? = some q
    rw [Int.toNat_natCast, ← aH.adlen, List.getElem?_append_right (Nat.le_refl _)]
    simp
end XC
end
section
/-! switches, the script, calls and ends -/
section XD
variable {p : Program} {l : Launch} {e : Env} {R : Room} {s : State} {mid : MethodId} {args : Array Value} {below : List Frame} {meth : Method} {c : Code} {Q : State → Prop} {D : va_G} {cl : List vw_C} {B0 sc nL : Nat} {ρ0 : List Int} {ad0 : List Nat}
  {pc : Nat} {L : List (Nat × xV)} {st : List xV} {cc ss : Nat} {h : List xC} {E : xE} {cb : ByteArray} {P : xP} {own : String}
theorem x_w_sw {v : xV} {r : List xV} {dflt lo hi : Int} {offs : Array Int} {len : Nat} (hx : p.tables.exec = Jvm.exec) (hb : c.code = cb) (hd : decode cb pc = .ok (.tableswitch dflt lo hi offs, len)) (hv : v.1 = 0) (h0 : 0 ≤ (pc : Int) + dflt) (hall : ∀ o ∈ offs.toList, 0 ≤ (pc : Int) + o) (hlen : (offs.toList.length : Int) = hi - lo + 1)
    (k1 : (x_iv E v).1 < lo → x_OKs p l e R s mid args below meth c Q D cl B0 sc nL ρ0 ad0 ((pc : Int) + dflt).toNat L r cc ss h (x_cap E v (-x_M) (lo - 1))) (k2 : hi < (x_iv E v).2 → x_OKs p l e R s mid args below meth c Q D cl B0 sc nL ρ0 ad0 ((pc : Int) + dflt).toNat L r cc ss h (x_cap E v (hi + 1) x_M))
    (k3 : ∀ (k : Nat) (off : Int), offs.toList[k]? = some off → x_can .eq (x_iv E v) (lo + k, lo + k) = true → x_OKs p l e R s mid args below meth c Q D cl B0 sc nL ρ0 ad0 ((pc : Int) + off).toNat L r cc ss h (x_cap E v (lo + k) (lo + k))) : x_OKs p l e R s mid args below meth c Q D cl B0 sc nL ρ0 ad0 pc L (v :: r) cc ss h E := by
  intro ρ ad H locs ls stc e1 e2 hr hfr
  obtain ⟨lv, h1, h2, h3⟩ := hfr
  obtain ⟨y, ys, rfl, g1, h4⟩ := h3.cons
  obtain ⟨n, rfl, gn⟩ := g1.int hv
  have hb1 := x_iv_ok hr.env gn
  have hM := x_b32 n
  by_cases hlo : n.toInt < lo
  · exact lv_tableOut hx hb hd (Or.inl hlo) (by omega) (k1 (by omega) ρ ad H locs ls ys e1 e2 (hr.grow (x_ext.rf _) (x_cap_ok hr.env gn hM.1 (by omega))) ⟨lv, h1, h2, h4⟩)
  by_cases hhi : hi < n.toInt
  · exact lv_tableOut hx hb hd (Or.inr hhi) (by omega) (k2 (by omega) ρ ad H locs ls ys e1 e2 (hr.grow (x_ext.rf _) (x_cap_ok hr.env gn (by omega) hM.2)) ⟨lv, h1, h2, h4⟩)
  have hk : (n.toInt - lo).toNat < offs.toList.length := by omega
  have he : offs.toList[(n.toInt - lo).toNat]? = some offs.toList[(n.toInt - lo).toNat] := List.getElem?_eq_getElem hk
  have hn : lo + ((n.toInt - lo).toNat : Int) = n.toInt := by omega
  have hoff := hall _ (List.mem_of_getElem? he)
  refine lv_tableIn hx hb hd hlo hhi (by rw [← Array.getElem?_toList]; exact he) (show (pc : Int) + _ = ((((pc : Int) + offs.toList[(n.toInt - lo).toNat]).toNat : Nat) : Int) by omega) ?_
  refine k3 _ _ he ?_ ρ ad H locs ls ys e1 e2 (hr.grow (x_ext.rf _) ?_) ⟨lv, h1, h2, h4⟩
  · simp only [x_can, Bool.and_eq_true, decide_eq_true_eq]
    omega
  · exact x_cap_ok hr.env gn (by omega) (by omega)
/-- the script: its length is symbol 6, its ints are symbols 0 to 5 -/
def x_Scr (B0 sc : Nat) (ρ0 : List Int) (s : State) : Prop := ∃ (Ln : Nat) (xs : Nat → Int32), va_X sc Ln xs s s.heap ∧ sc < s.heap.size ∧ ¬ B0 ≤ sc ∧ Ln ≤ 6 ∧ ρ0[6]? = some (Ln : Int) ∧ ∀ j : Nat, j < 6 → ρ0[j]? = some (xs j).toInt
theorem x_w_slen {b : Option Nat} {k : Int} {r : List xV} (hx : p.tables.exec = Jvm.exec) (hb : c.code = cb) (hd : decode cb pc = .ok (.arraylength, 1)) (hs : x_Scr B0 sc ρ0 s) (kk : x_OKs p l e R s mid args below meth c Q D cl B0 sc nL ρ0 ad0 (pc + 1) L ((0, some 6, 0) :: r) cc ss h E) : x_OKs p l e R s mid args below meth c Q D cl B0 sc nL ρ0 ad0 pc L ((4, b, k) :: r) cc ss h E := by
  intro ρ ad H locs ls stc e1 e2 hr hfr
  obtain ⟨lv, h1, h2, h3⟩ := hfr
  obtain ⟨y, ys, rfl, g1, h4⟩ := h3.cons
  have g1 : y = .ref sc := g1
  subst g1
  have hr0 := hr
  obtain ⟨ws, tys, aK, aP, aD, aS, aH, aE⟩ := hr
  obtain ⟨Ln, xs, s1, s2, s3, s4, s5, s6⟩ := hs
  refine va_slen hx hb s1 s2 s3 aS hd (kk ρ ad H locs ls _ e1 e2 hr0 ⟨lv, h1, h2, ⟨_, rfl, ?_⟩, h4⟩)
  refine ⟨Ln, e1.get s5, ?_⟩
  rw [show (Int32.ofNat Ln) = nI Ln from rfl, nI_toInt (by omega)]
  exact (Int.add_zero _).symm
theorem x_w_sld {i : xV} {b : Option Nat} {k : Int} {r : List xV} (hx : p.tables.exec = Jvm.exec) (hb : c.code = cb) (hd : decode cb pc = .ok (.iaload, 1)) (hs : x_Scr B0 sc ρ0 s) (hi : i.1 = 0) (hn : i.2.1 = none) (h0 : 0 ≤ i.2.2) (h6 : i.2.2 < 6) (hl : i.2.2 < (x_iv E (0, some 6, 0)).1)
    (kk : x_OKs p l e R s mid args below meth c Q D cl B0 sc nL ρ0 ad0 (pc + 1) L ((0, some i.2.2.toNat, 0) :: r) cc ss h E) : x_OKs p l e R s mid args below meth c Q D cl B0 sc nL ρ0 ad0 pc L (i :: (4, b, k) :: r) cc ss h E := by
  intro ρ ad H locs ls stc e1 e2 hr hfr
  obtain ⟨lv, h1, h2, h3⟩ := hfr
  obtain ⟨x, xs0, rfl, gx, h4⟩ := h3.cons
  obtain ⟨y, ys, rfl, g1, h5⟩ := h4.cons
  have g1 : y = .ref sc := g1
  subst g1
  obtain ⟨n, rfl, gn⟩ := gx.int hi
  rw [hn] at gn
  have gn : n.toInt = i.2.2 := gn
  have hr0 := hr
  obtain ⟨ws, tys, aK, aP, aD, aS, aH, aE⟩ := hr
  obtain ⟨Ln, xs, s1, s2, s3, s4, s5, s6⟩ := hs
  have hb6 := x_iv_ok aE (v := (0, some 6, 0)) (r := (Ln : Int)) ⟨Ln, e1.get s5, (Int.add_zero _).symm⟩
  obtain ⟨c1, c2, c3⟩ := x_clamp (i := n) (n := Ln) (by omega) (by omega)
  refine va_sld hx hb s1 s2 s3 aS c1 hd (kk ρ ad H locs ls _ e1 e2 hr0 ⟨lv, h1, h2, ⟨_, rfl, ?_⟩, h5⟩)
  rw [c2, gn]
  exact ⟨_, e1.get (s6 i.2.2.toNat (by omega)), (Int.add_zero _).symm⟩
theorem x_cats {ρ : List Int} {ad : List Nat} {sc : Nat} : ∀ {vs : List xV} {xs : List Value}, x_vals ρ ad sc vs xs → (xs.map fun v => v.category).sum = (vs.map x_cat).sum
  | [], [], _ => rfl
  | v :: vs, x :: xs, g => by
    rw [List.map_cons, List.map_cons, List.sum_cons, List.sum_cons, g.1.cat, x_cats g.2]
  | [], _ :: _, g => g.elim
  | _ :: _, [], g => g.elim
theorem x_w_oinit {idx : Nat} {b : Option Nat} {k : Int} {r : List xV} {z : Nat × Int} (hx : p.tables.exec = Jvm.exec) (hb : c.code = cb) (hml : c.maxLocals = nL) (hown : s.vm.findClass own = some mid.cls) (hts : ∀ w ∈ x_tbl, w.before args s = true) (hp : x_okp cl P own idx (5, z)) (hd : decode cb pc = .ok (.invokespecial idx, 3))
    (hR1 : 1 ≤ R.frames) (hR2 : 20 ≤ R.locals) (hc : (r.map x_cat).sum ≤ 8) (kk : x_OKs p l e R s mid args below meth c Q D cl B0 sc nL ρ0 ad0 (pc + 3) L r cc ss h E) : x_OKs p l e R s mid args below meth c Q D cl B0 sc nL ρ0 ad0 pc L ((3, b, k) :: r) cc ss h E := by
  intro ρ ad H locs ls stc e1 e2 hr hfr
  obtain ⟨lv, h1, h2, h3⟩ := hfr
  obtain ⟨y, ys, rfl, g1, h4⟩ := h3.cons
  obtain ⟨a, rfl, ga⟩ := g1
  obtain ⟨p1, p2, p3⟩ := hp
  have hc' := x_cats h4
  refine W.objInit hx hb hown (hts _ p1) (hts _ p2) (hts _ p3) rfl (by rw [hml]; exact h1.1) rfl hd hR1 ?_ ?_
  · show 2 * 0 + (ys.map fun v => v.category).sum + 12 ≤ R.locals
    omega
  · exact kk ρ ad H locs ls ys e1 e2 hr ⟨lv, h1, h2, h4⟩
theorem x_w_cpy {idx : Nat} {n dp sp : Int} {b1 b2 : Option Nat} {kd ks : Int} {r : List xV} {n0 n1 : Nat} {lo0 hi0 lo1 hi1 : Int} {z : Nat × Int} (hx : p.tables.exec = Jvm.exec) (hb : c.code = cb) (hml : c.maxLocals = nL) (hown : s.vm.findClass own = some mid.cls) (hts : ∀ w ∈ x_tbl, w.before args s = true) (hp : x_okp cl P own idx (10, z)) (hd : decode cb pc = .ok (.invokestatic idx, 3))
    (hR1 : 1 ≤ R.frames) (hR2 : 40 ≤ R.locals) (hs : h[ks.toNat]? = some (.inl (0, n0, lo0, hi0, []))) (hd1 : h[kd.toNat]? = some (.inl (0, n1, lo1, hi1, []))) (q1 : 0 ≤ n) (q2 : 0 ≤ dp) (q3 : 0 ≤ sp) (q4 : sp + n ≤ n0) (q5 : dp + n ≤ n1) (hc : (r.map x_cat).sum ≤ 8)
    (kk : x_OKs p l e R s mid args below meth c Q D cl B0 sc nL ρ0 ad0 (pc + 3) L r cc ss (h.set kd.toNat (.inl (0, n1, min lo0 lo1, max hi0 hi1, []))) E) : x_OKs p l e R s mid args below meth c Q D cl B0 sc nL ρ0 ad0 pc L ((0, none, n) :: (0, none, dp) :: (3, b1, kd) :: (0, none, sp) :: (3, b2, ks) :: r) cc ss h E := by
  intro ρ ad H locs ls stc e1 e2 hr hfr
  obtain ⟨lv, h1, h2, h3⟩ := hfr
  obtain ⟨y1, ys1, rfl, g1, h4⟩ := h3.cons
  obtain ⟨y2, ys2, rfl, g2, h5⟩ := h4.cons
  obtain ⟨y3, ys3, rfl, g3, h6⟩ := h5.cons
  obtain ⟨y4, ys4, rfl, g4, h7⟩ := h6.cons
  obtain ⟨y5, ys5, rfl, g5, h8⟩ := h7.cons
  obtain ⟨x1, rfl, k1⟩ := g1
  obtain ⟨x2, rfl, k2⟩ := g2
  obtain ⟨a1, rfl, k3⟩ := g3
  obtain ⟨x4, rfl, k4⟩ := g4
  obtain ⟨a0, rfl, k5⟩ := g5
  have k1 : x1.toInt = n := k1
  have k2 : x2.toInt = dp := k2
  have k4 : x4.toInt = sp := k4
  obtain ⟨ws, tys, aK, aP, aD, aS, aH, aE⟩ := hr
  obtain ⟨ev0, w0, v0⟩ := aH.at hs k5
  obtain ⟨ev1, w1, v1⟩ := aH.at hd1 k3
  obtain ⟨c0, f, rfl, ⟨t0, ht0⟩, f0⟩ := v0
  obtain ⟨c1, g, rfl, ⟨t1, ht1⟩, f1⟩ := v1
  obtain ⟨p1, p2, p3, p4⟩ := hp
  have nn : ∀ {m : Int32} {i : Int}, m.toInt = i → 0 ≤ i → ¬ m < 0 ∧ m.toNatClampNeg = i.toNat := by
    intro m i hm hi
    refine ⟨fun q => ?_, ?_⟩
    · have := Int32.lt_iff_toInt_lt.mp q
      rw [hm] at this
      have z : (0 : Int32).toInt = 0 := rfl
      omega
    · show m.toInt.toNat = i.toNat
      rw [hm]
  obtain ⟨m1, m2⟩ := nn k1 q1
  obtain ⟨m3, m4⟩ := nn k2 q2
  obtain ⟨m5, m6⟩ := nn k4 q3
  have hc' := x_cats h8
  refine va_copyi hx hb (by rw [hml]; exact h1.1.symm) hown (hts _ p1) (hts _ p2) (hts _ p3) (hts _ p4) aK aP aD aS ks.toNat kd.toNat t0 t1 w0 w1 ht0 ht1 rfl m5 m3 m1 (by rw [m6, m2]; show sp.toNat + n.toNat ≤ n0; omega) (by rw [m4, m2]; show dp.toNat + n.toNat ≤ n1; omega) (fun _ _ => rfl) hR1 ?_ hd (fun H1 locs1 hP hD hS => ?_)
  · have : nativeFrameWords "java/lang/System" "arraycopy" 5 = 7 := by decide
    rw [this]
    omega
  · refine kk ρ ad H1 locs1 ls ys5 e1 e2 ⟨_, tys, aK, hP, hD, hS, aH.set w1 ⟨c1, _, rfl, ⟨t1, ht1⟩, fun j hj => ?_⟩, aE⟩ ⟨lv, h1, h2, h8⟩
    show min lo0 lo1 ≤ (va_cpy f g x4.toNatClampNeg x2.toNatClampNeg x1.toNatClampNeg j).toInt ∧ (va_cpy f g x4.toNatClampNeg x2.toNatClampNeg x1.toNatClampNeg j).toInt ≤ max hi0 hi1
    unfold va_cpy
    split
    next hh =>
      have z : lo0 ≤ (f (x4.toNatClampNeg + (j - x2.toNatClampNeg))).toInt ∧ (f (x4.toNatClampNeg + (j - x2.toNatClampNeg))).toInt ≤ hi0 := f0 _ (show x4.toNatClampNeg + (j - x2.toNatClampNeg) < n0 by rw [m6]; rw [m4, m2] at hh; rw [m4]; omega)
      omega
    next =>
      have z : lo1 ≤ (g j).toInt ∧ (g j).toInt ≤ hi1 := f1 j hj
      omega
/-- what a call may count on, and what it gives back -/
def x_B (D : va_G) (cl : List vw_C) (B0 sc : Nat) (ρ : List Int) (ad : List Nat) (h : List xC) (U : State) : Prop := ∃ (ws : va_W) (tys : List (ClassId × FieldType)), va_K D cl tys U ∧ va_P D cl ws U.heap ∧ va_D (fun q : Nat => B0 ≤ q) ws ∧ x_heap ρ ad sc tys h ws
def x_rv (ρ : List Int) (ad : List Nat) (sc : Nat) : Option xV → Option Value → Prop
  | none, none => True
  | some v, some x => x_val ρ ad sc v x
  | _, _ => False
def x_Qc (P : xP) (D : va_G) (cl : List vw_C) (B0 sc n : Nat) (f : xF) (fs : List xF) (ρ : List Int) (ad : List Nat) : Array Value → State → Outcome → State → Prop := fun _ st o t =>
  (∃ (n' : Nat) (vo : Option xV) (xo : Option Value) (ρ' : List Int) (ad' : List Nat) (h' : List xC) (E' : xE), n' < n ∧ o = .returned xo ∧ x_rv ρ' ad' sc vo xo ∧ x_ext ρ ρ' ∧ x_ext ad ad' ∧ x_env ρ' E' ∧ x_B D cl B0 sc ρ' ad' h' t ∧
    x_run P n' ((f.1, f.2.1, f.2.2.1, vo.toList ++ f.2.2.2.1, f.2.2.2.2) :: fs, h', E') = true) ∧ va_F (fun q : Nat => B0 ≤ q) st t
theorem x_go_call {n mc ms : Nat} {f : xF} {fs : List xF} {ρ : List Int} {ad : List Nat} {H : Heap} {locs : List Loc} {ls : Array Slot} {st0 rest : List Value} {av : Array Value} (hrun : va_Run p l e R s mid args below meth c H locs cc ss mc ms (F0 mid pc ls st0) rest (x_Qc P D cl B0 sc n f fs ρ ad av) (fun q : Nat => B0 ≤ q)) (hS : va_S (fun q : Nat => B0 ≤ q) s.heap H locs)
    (kk : ∀ (n' : Nat) (vo : Option xV) (xo : Option Value) (ρ' : List Int) (ad' : List Nat) (h' : List xC) (E' : xE) (H1 : Heap) (locs1 : List Loc), n' < n → x_rv ρ' ad' sc vo xo → x_ext ρ ρ' → x_ext ad ad' → x_rel D cl B0 sc s ρ' ad' h' E' H1 locs1 →
      x_run P n' ((f.1, f.2.1, f.2.2.1, vo.toList ++ f.2.2.2.1, f.2.2.2.2) :: fs, h', E') = true → W p l e R s mid args below meth c H1 locs1 (cc + mc) (ss + ms) Q (F0 mid (pc + 3) ls (xo.toList ++ rest))) : W p l e R s mid args below meth c H locs cc ss Q (F0 mid pc ls st0) := by
  intro T hT X
  obtain ⟨v, st₀, t, T', Lc, h0, X', hL, e1, e2, ⟨⟨n', vo, xo, ρ', ad', h', E', q1, q2, q3, q4, q5, q6, ⟨ws, tys, r1, r2, r3, r4⟩, q8⟩, hz, hk⟩, stp⟩ := hrun T hT X
  cases q2
  rw [h0] at hz hk
  have hvm : s.vm.Alike t.vm := by rw [← e2]; exact X'.warmed.alike
  have hS1 : va_S (fun q : Nat => B0 ≤ q) s.heap T'.heap (locs ++ Lc) := ⟨Nat.le_trans hS.1 (by rw [e1]; exact hz), fun q h1 h2 => by rw [e1, hk q (Nat.lt_of_lt_of_le h1 hS.1) h2]; exact hS.2.1 q h1 h2, fun q hq => by
      rcases List.mem_append.mp hq with h | h
      · exact hS.2.2 q h
      · exact hL q h⟩
  obtain ⟨t2, a1, b1⟩ := kk n' vo v ρ' ad' h' E' T'.heap (locs ++ Lc) q1 q3 q4 q5 ⟨ws, tys, va_K.moved hvm.symm r1, by rw [e1]; exact r2, r3, hS1, r4, q6⟩ q8 T' rfl X'
  exact ⟨t2, stp t2 a1, b1⟩
end XD
/-- a frame's surroundings -/
def x_Ctx (P : xP) (B0 : Nat) (p : Program) (R : Room) (s : State) (mid : MethodId) (args : Array Value) (meth : Method) (c : Code) (m d : Nat) : Prop :=
  p.tables.exec = Jvm.exec ∧ c.code = x_by P m ∧ meth.sig.returnType = x_rt P m ∧ c.maxLocals = x_maxL P m ∧ s.vm.findClass (x_nm P m).cls = some mid.cls ∧ (∀ w ∈ x_tbl, w.before args s = true) ∧ (∀ w ∈ x_nest, va_Nw w s) ∧ meth.locks = false ∧ meth.name = (x_nm P m).name ∧ B0 ≤ s.heap.size ∧
  50 - d ≤ R.frames ∧ 100 * (50 - d) ≤ R.locals ∧ x_mc P m ≤ R.cells ∧ x_ms P m ≤ R.slots
def x_isRet (i : Instr) : Prop := i = .ireturn ∨ i = .lreturn ∨ i = .return_
/-- what is said of the runs of n steps -/
def x_Snd (P : xP) (D : va_G) (cl : List vw_C) (B0 sc : Nat) (l : Launch) (n : Nat) : Prop :=
  ∀ (m pc : Nat) (L : List (Nat × xV)) (st : List xV) (cc ss : Nat) (fs : List xF) (h : List xC) (E : xE), x_run P n ((m, pc, L, st, cc, ss) :: fs, h, E) = true →
  ∀ (p : Program) (e : Env) (R : Room) (s : State) (mid : MethodId) (args : Array Value) (below : List Frame) (meth : Method) (c : Code) (Q : State → Prop) (ρ0 : List Int) (ad0 : List Nat), x_Ctx P B0 p R s mid args meth c m fs.length → fs.length ≤ 40 → (m = 0 → x_Scr B0 sc ρ0 s) →
  (∀ (n' pc : Nat) (L : List (Nat × xV)) (st : List xV) (cc ss : Nat) (h : List xC) (E : xE) (i : Instr) (len : Nat), n' ≤ n → x_code P m pc = some (i, len) → x_isRet i → x_run P n' ((m, pc, L, st, cc, ss) :: fs, h, E) = true → x_OKs p l e R s mid args below meth c Q D cl B0 sc (x_maxL P m) ρ0 ad0 pc L st cc ss h E) →
  x_OKs p l e R s mid args below meth c Q D cl B0 sc (x_maxL P m) ρ0 ad0 pc L st cc ss h E
theorem x_if_ok {b : Bool} {r : Option (List xS)} {lst : List xS} (h : x_if b r = some lst) : b = true ∧ r = some lst := by
  cases b with
  | false => cases h
  | true => exact ⟨rfl, h⟩
theorem x_blind {D : va_G} {cl : List vw_C} {B0 sc : Nat} {ρ : List Int} {ad : List Nat} {h : List xC} {av : List Value} : FrameBlind (va_Pc av (fun U => B0 ≤ U.heap.size ∧ (∀ w ∈ x_nest, va_Nw w U) ∧ x_B D cl B0 sc ρ ad h U)) := by
  intro a U g mk q
  obtain ⟨q0, q1, q2, ws, tys, r1, r2, r3, r4⟩ := q
  refine ⟨q0, q1, fun w hw => ?_, ws, tys, va_K.moved (u := U) (U := U.calling g mk a) (Vm.Alike.refl U.vm) r1, r2, r3, r4⟩
  have hn : x_isNest w = true := (List.mem_filter.mp hw).2
  have ht : w.onTables = true := by cases w <;> first | rfl | cases hn
  exact va_Nw.same (u := U) (U := U.calling g mk a) ht rfl (q2 w hw)
theorem x_nest_warm {s U : State} (hW : s.WarmedH U.vm) (h : ∀ w ∈ x_nest, va_Nw w s) : ∀ w ∈ x_nest, va_Nw w U := by
  intro w hw
  have hn : x_isNest w = true := (List.mem_filter.mp hw).2
  have := h w hw
  revert this
  cases w <;> first | (intro hz; exact va_Nw.warmM hW hz) | cases hn
/-- a callee's contract, out of its runs -/
theorem x_met {P : xP} {D : va_G} {cl : List vw_C} {B0 sc : Nat} {l : Launch} {n j d : Nat} {f : xF} {fs : List xF} {h : List xC} {E : xE} {as : List xV} {av : List Value} {ρ : List Int} {ad : List Nat} (hOK : x_OK cl P) (hS : x_Snd P D cl B0 sc l n) (hm : x_okm P j) (hd : fs.length = d) (hd40 : d < 40)
    (hrun : x_run P n ((j, 0, x_args 0 as, [], 0, 0) :: f :: fs, h, E) = true) (hav : x_vals ρ ad sc as av) (hE : x_env ρ E) (hfit : (as.map x_cat).sum ≤ x_maxL P j) :
    Met l (x_nm P j) (Cond.code (x_nm P j) (x_by P j) (x_maxL P j) (x_rt P j) :: x_tbl) { frames := 50 - (d + 1), cells := x_mc P j, slots := x_ms P j, locals := 100 * (50 - (d + 1)) }
      (va_Pc av (fun U => B0 ≤ U.heap.size ∧ (∀ w ∈ x_nest, va_Nw w U) ∧ x_B D cl B0 sc ρ ad h U)) (x_Qc P D cl B0 sc n f fs ρ ad) (x_mc P j) (x_ms P j) (fun q : Nat => B0 ≤ q) := by
  obtain ⟨m1, m2, m3, m4, m5, m6⟩ := hm
  refine Met.ofW (cc := x_by P j) (maxL := x_maxL P j) (ret := x_rt P j) m3 rfl ?_
  intro p e s mid args below meth c s₁ B hml hv
  obtain ⟨rfl, hB0, hnest, ws, tys, r1, r2, r3, r4⟩ := hv
  have hlocks := B.notSynchronized
  have hts : ∀ w ∈ x_tbl, w.before av.toArray s = true := fun w hw => atoms_spec (ws := Cond.code (x_nm P j) (x_by P j) (x_maxL P j) (x_rt P j) :: x_tbl) B.pre w (List.mem_cons_of_mem _ hw)
  have hctx : x_Ctx P B0 p (headSpec (Cond.code (x_nm P j) (x_by P j) (x_maxL P j) (x_rt P j) :: x_tbl) { frames := 50 - (d + 1), cells := x_mc P j, slots := x_ms P j, locals := 100 * (50 - (d + 1)) }).room s mid av.toArray meth c j (f :: fs).length :=
    ⟨B.exec, B.bytes, B.returns, hml, findClass_of_methodNamed B.named, hts, hnest, hlocks, (name_of_methodNamed B.named B.method).1, hB0, by rw [List.length_cons, hd]; exact Nat.le_refl _, by rw [List.length_cons, hd]; exact Nat.le_refl _, Nat.le_refl _, Nat.le_refl _⟩
  rw [lg_entry_eq]
  have hsl : ∀ (vs : List xV) (xs : List Value), x_vals ρ ad sc vs xs → (lg_sl xs).length = (vs.map x_cat).sum := by
    intro vs
    induction vs with
    | nil => intro xs g; rw [g.nil]; rfl
    | cons v vs ih =>
      intro xs g
      obtain ⟨x, ys, rfl, g1, g2⟩ := g.cons
      have hcat := g1.cat
      rw [List.map_cons, List.sum_cons, ← ih ys g2, ← hcat]
      rcases lv_cat x with hc | hc
      · simp [lg_sl, hc]; omega
      · simp [lg_sl, hc]; omega
  have hl := lv_entry av (n := x_maxL P j) (by rw [hsl as av hav]; exact hfit)
  refine hS j 0 (x_args 0 as) [] 0 0 (f :: fs) h E hrun p e _ s mid av.toArray below meth c _ ρ ad hctx (by rw [List.length_cons]; omega) (fun z => absurd z m6) ?_ ρ ad s.heap [] _ [] (x_ext.rf _) (x_ext.rf _) ⟨ws, tys, r1, r2, r3, va_S.rf, r4, hE⟩ ⟨_, hl, hav.args 0, trivial⟩
  -- the method's end
  intro n' pc L st cc ss h' E' i len hn' hcode hret hrun'
  obtain ⟨k, rfl⟩ : ∃ k, n' = k + 1 := by
    cases n' with
    | zero => cases hrun'
    | succ k => exact ⟨k, rfl⟩
  obtain ⟨lst, hstep, hall⟩ := x_run_ok hrun'
  have hstep : x_ins P j pc L st cc ss (f :: fs) h' E' i len = some lst := by
    have : x_step P ((j, pc, L, st, cc, ss) :: f :: fs, h', E') = x_ins P j pc L st cc ss (f :: fs) h' E' i len := by
      simp only [x_step, hcode]
    rw [← this]
    exact hstep
  have hdec := hOK.1 j pc i len hcode
  obtain ⟨fm, fpc, fL, fst, fcc, fss⟩ := f
  intro ρ' ad' H locs ls stc e1 e2 hr hfr
  obtain ⟨lv, h1, h2, h3⟩ := hfr
  have hE' := hr.env
  obtain ⟨ws', tys', aK, aP, aD, aS, aH, aE⟩ := hr
  rcases hret with rfl | rfl | rfl
  · obtain ⟨b1, b2⟩ := x_if_ok (show x_if (len == 1) (x_ret P j st cc ss ((fm, fpc, fL, fst, fcc, fss) :: fs) h' E' 0) = some lst from hstep)
    have b1 : len = 1 := by simpa using b1
    subst b1
    cases st with
    | nil => cases b2
    | cons v r =>
      cases r with
      | cons _ _ => cases b2
      | nil =>
        unfold x_ret at b2
        dsimp only at b2
        split at b2
        next hv =>
          split at b2
          next hc =>
            cases b2
            obtain ⟨x, ys, rfl, gx, h4⟩ := h3.cons
            rw [h4.nil]
            obtain ⟨nn, rfl, gn⟩ := gx.int hv
            refine W.widen (k := x_mc P j) (n := x_ms P j) hc.1 hc.2.1 ?_
            have hq : ∀ t : State, t.heap = H → s.WarmedH t.vm → x_Qc P D cl B0 sc n (fm, fpc, fL, fst, fcc, fss) fs ρ ad av.toArray s (.returned (some (.int nn))) t := fun t ht hW =>
              ⟨⟨k, some v, some (.int nn), ρ', ad', h', E', by omega, rfl, gx, e1, e2, hE', ⟨ws', tys', va_K.moved hW.alike aK, by rw [ht]; exact aP, aD, aH⟩, hall _ (List.mem_singleton.mpr rfl)⟩, aS.F ht⟩
            rcases hc.2.2 with ⟨-, hk⟩ | ⟨-, hk, hz⟩ | ⟨hk, -⟩
            · rw [hk] at m5
              have m5 : x_rt P j = some .int := m5
              exact W.iret B.exec B.bytes (B.returns.trans m5) hq aS.2.2 hdec
            · rw [hk] at m5
              have m5 : x_rt P j = some .boolean := m5
              have hfit := x_fit_ok (kd := 3) hE' gx hz (show x_tyk 3 .boolean from rfl)
              exact W.zret B.exec B.bytes (B.returns.trans m5) hfit.1 hq aS.2.2 hdec
            · cases hk
          next => cases b2
        next => cases b2
  · obtain ⟨b1, b2⟩ := x_if_ok (show x_if (len == 1) (x_ret P j st cc ss ((fm, fpc, fL, fst, fcc, fss) :: fs) h' E' 1) = some lst from hstep)
    have b1 : len = 1 := by simpa using b1
    subst b1
    cases st with
    | nil => cases b2
    | cons v r =>
      cases r with
      | cons _ _ => cases b2
      | nil =>
        unfold x_ret at b2
        dsimp only at b2
        split at b2
        next hv =>
          split at b2
          next hc =>
            cases b2
            obtain ⟨x, ys, rfl, gx, h4⟩ := h3.cons
            rw [h4.nil]
            obtain ⟨nn, rfl, gn⟩ := gx.long hv
            refine W.widen (k := x_mc P j) (n := x_ms P j) hc.1 hc.2.1 ?_
            have hq : ∀ t : State, t.heap = H → s.WarmedH t.vm → x_Qc P D cl B0 sc n (fm, fpc, fL, fst, fcc, fss) fs ρ ad av.toArray s (.returned (some (.long nn))) t := fun t ht hW =>
              ⟨⟨k, some v, some (.long nn), ρ', ad', h', E', by omega, rfl, gx, e1, e2, hE', ⟨ws', tys', va_K.moved hW.alike aK, by rw [ht]; exact aP, aD, aH⟩, hall _ (List.mem_singleton.mpr rfl)⟩, aS.F ht⟩
            rcases hc.2.2 with ⟨hk, -⟩ | ⟨hk, -⟩ | ⟨-, hk⟩
            · cases hk
            · cases hk
            · rw [hk] at m5
              have m5 : x_rt P j = some .long := m5
              exact W.lret B.exec B.bytes (B.returns.trans m5) hq aS.2.2 hdec
          next => cases b2
        next => cases b2
  · obtain ⟨b1, b2⟩ := x_if_ok (show x_if (len == 1) (x_retV P j st cc ss ((fm, fpc, fL, fst, fcc, fss) :: fs) h' E') = some lst from hstep)
    have b1 : len = 1 := by simpa using b1
    subst b1
    cases st with
    | cons _ _ => cases b2
    | nil =>
      unfold x_retV at b2
      dsimp only at b2
      split at b2
      next hc =>
        cases b2
        rw [h3.nil]
        refine W.widen (k := x_mc P j) (n := x_ms P j) hc.1 hc.2.1 ?_
        have hq : ∀ t : State, t.heap = H → s.WarmedH t.vm → x_Qc P D cl B0 sc n (fm, fpc, fL, fst, fcc, fss) fs ρ ad av.toArray s (.returned none) t := fun t ht hW =>
          ⟨⟨k, none, none, ρ', ad', h', E', by omega, rfl, trivial, e1, e2, hE', ⟨ws', tys', va_K.moved hW.alike aK, by rw [ht]; exact aP, aD, aH⟩, hall _ (List.mem_singleton.mpr rfl)⟩, aS.F ht⟩
        have m5' := m5
        rw [hc.2.2] at m5'
        have m5' : x_rt P j = none := m5'
        exact W.vret B.exec B.bytes (B.returns.trans m5') hq aS.2.2 hdec
      next => cases b2
end
section
/-! the executor is sound -/
theorem x_goodIn {w0 : Cond} (h : w0 ∈ x_tbl) : GoodIn x_tbl (w0 :: x_tbl) := by
  have hg : ∀ w ∈ x_tbl, w ∈ x_tbl ∧ ((w.onTables && w.keeps) = true ∨ ∃ ty, w = .arrayClass ty) := fun w hw => ⟨hw, good_of_word (List.mem_filter.mp hw).2⟩
  intro w hw
  rcases List.mem_cons.mp hw with rfl | hw
  · exact hg _ h
  · exact hg _ hw
theorem x_B_of {D : va_G} {cl : List vw_C} {B0 sc : Nat} {s : State} {ρ : List Int} {ad : List Nat} {h : List xC} {E : xE} {H : Heap} {locs : List Loc} (g : x_rel D cl B0 sc s ρ ad h E H locs) (hB : B0 ≤ s.heap.size) (hn : ∀ w ∈ x_nest, va_Nw w s) (U : State) (hU : U.heap = H) (hW : s.WarmedH U.vm) : B0 ≤ U.heap.size ∧ (∀ w ∈ x_nest, va_Nw w U) ∧ x_B D cl B0 sc ρ ad h U := by
  obtain ⟨ws, tys, aK, aP, aD, aS, aH, aE⟩ := g
  exact ⟨by rw [hU]; exact Nat.le_trans hB aS.1, x_nest_warm hW hn, ws, tys, va_K.moved hW.alike aK, by rw [hU]; exact aP, aD, aH⟩
section XI
variable {p : Program} {l : Launch} {e : Env} {R : Room} {s : State} {mid : MethodId} {args : Array Value} {below : List Frame} {meth : Method} {c : Code} {Q : State → Prop} {D : va_G} {cl : List vw_C} {B0 sc : Nat} {ρ0 : List Int} {ad0 : List Nat}
  {m pc : Nat} {L : List (Nat × xV)} {st : List xV} {cc ss : Nat} {fs : List xF} {h : List xC} {E : xE} {P : xP}
/-- the room that a callee gets -/
abbrev x_rm (P : xP) (d j : Nat) : Room := { frames := 50 - (d + 1), cells := x_mc P j, slots := x_ms P j, locals := 100 * (50 - (d + 1)) }
abbrev x_ws (P : xP) (j : Nat) : List Cond := Cond.code (x_nm P j) (x_by P j) (x_maxL P j) (x_rt P j) :: x_tbl
theorem x_w_inv {k j : Nat} {as rest : List xV} {lst : List xS} (hOK : x_OK cl P) (hS : ∀ n', n' ≤ k → x_Snd P D cl B0 sc l n') (ctx : x_Ctx P B0 p R s mid args meth c m fs.length) (hd40 : fs.length ≤ 40) (hscr : m = 0 → x_Scr B0 sc ρ0 s)
    (hend : ∀ (n' pc : Nat) (L : List (Nat × xV)) (st : List xV) (cc ss : Nat) (h : List xC) (E : xE) (i : Instr) (len : Nat), n' ≤ k + 1 → x_code P m pc = some (i, len) → x_isRet i → x_run P n' ((m, pc, L, st, cc, ss) :: fs, h, E) = true → x_OKs p l e R s mid args below meth c Q D cl B0 sc (x_maxL P m) ρ0 ad0 pc L st cc ss h E)
    (hm : x_okm P j) (hpush : x_push P m pc L cc ss fs h E j as rest = some lst) (hall : ∀ S' ∈ lst, x_run P k S' = true)
    (row : ∀ {ρ : List Int} {ad : List Nat} {H : Heap} {locs : List Loc} {ls : Array Slot} {stc : List Value}, fs.length < 40 → x_maxL P j ≤ 60 → cc + x_mc P j ≤ R.cells ∧ ss + x_ms P j ≤ R.slots → (rest.map x_cat).sum ≤ 8 → ls.size = x_maxL P m → x_vals ρ ad sc st stc → x_rel D cl B0 sc s ρ ad h E H locs →
      ∃ av restc : List Value, x_vals ρ ad sc as av ∧ x_vals ρ ad sc rest restc ∧ ∀ Qc : Array Value → State → Outcome → State → Prop, Met l (x_nm P j) (x_ws P j) (x_rm P fs.length j) (va_Pc av (fun U => B0 ≤ U.heap.size ∧ (∀ w ∈ x_nest, va_Nw w U) ∧ x_B D cl B0 sc ρ ad h U)) Qc (x_mc P j) (x_ms P j) (fun q : Nat => B0 ≤ q) →
        va_Run p l e R s mid args below meth c H locs cc ss (x_mc P j) (x_ms P j) (F0 mid pc ls stc) restc (Qc av.toArray) (fun q : Nat => B0 ≤ q)) :
    x_OKs p l e R s mid args below meth c Q D cl B0 sc (x_maxL P m) ρ0 ad0 pc L st cc ss h E := by
  unfold x_push at hpush
  split at hpush
  next hc =>
    cases hpush
    obtain ⟨c1, c2, c3, c4, c5, c6⟩ := hc
    intro ρ ad H locs ls stc e1 e2 hr hfr
    obtain ⟨lv, h1, h2, h3⟩ := hfr
    have hR3 := ctx.2.2.2.2.2.2.2.2.2.2.2.2.1
    have hR4 := ctx.2.2.2.2.2.2.2.2.2.2.2.2.2
    obtain ⟨av, restc, g1, g2, g3⟩ := row c3 c4 ⟨by omega, by omega⟩ c6 h1.1 h3 hr
    have hrun1 := hall _ (List.mem_singleton.mpr rfl)
    have M := x_met (f := (m, pc + 3, L, rest, cc + x_mc P j, ss + x_ms P j)) hOK (hS k (Nat.le_refl _)) hm (rfl : fs.length = fs.length) c3 hrun1 g1 hr.env c5
    have hr0 := hr
    obtain ⟨ws, tys, aK, aP, aD, aS, aH, aE⟩ := hr
    refine x_go_call (g3 _ M) aS (fun n' vo xo ρ' ad' h' E' H1 locs1 hn hv he1 he2 hrel hrun' => ?_)
    refine hS n' (by omega) m (pc + 3) L (vo.toList ++ rest) (cc + x_mc P j) (ss + x_ms P j) fs h' E' hrun' p e R s mid args below meth c Q ρ0 ad0 ctx hd40 hscr (fun n2 pc2 L2 st2 cc2 ss2 h2 E2 i2 len2 hn2 => hend n2 pc2 L2 st2 cc2 ss2 h2 E2 i2 len2 (by omega)) ρ' ad' H1 locs1 ls (xo.toList ++ restc) (e1.tr he1) (e2.tr he2) hrel ⟨lv, h1, h2.mono he1 he2, ?_⟩
    have g2' := g2.mono he1 he2
    cases vo with
    | none =>
      cases xo with
      | none => exact g2'
      | some x => exact hv.elim
    | some v =>
      cases xo with
      | none => exact hv.elim
      | some x => exact ⟨hv, g2'⟩
  next => cases hpush
theorem x_room {d j : Nat} (hd : d < 40) (hj : x_maxL P j ≤ 60) (h1 : 50 - d ≤ R.frames) (h2 : 100 * (50 - d) ≤ R.locals) : (x_rm P d j).frames + 1 ≤ R.frames ∧ 8 + (x_maxL P j + 11) + (x_rm P d j).locals ≤ R.locals := by
  refine ⟨?_, ?_⟩
  · show 50 - (d + 1) + 1 ≤ R.frames
    omega
  · show 8 + (x_maxL P j + 11) + 100 * (50 - (d + 1)) ≤ R.locals
    omega
theorem x_w_invV {k idx : Nat} {lst : List xS} (hOK : x_OK cl P) (hS : ∀ n', n' ≤ k → x_Snd P D cl B0 sc l n') (ctx : x_Ctx P B0 p R s mid args meth c m fs.length) (hd40 : fs.length ≤ 40) (hscr : m = 0 → x_Scr B0 sc ρ0 s)
    (hend : ∀ (n' pc : Nat) (L : List (Nat × xV)) (st : List xV) (cc ss : Nat) (h : List xC) (E : xE) (i : Instr) (len : Nat), n' ≤ k + 1 → x_code P m pc = some (i, len) → x_isRet i → x_run P n' ((m, pc, L, st, cc, ss) :: fs, h, E) = true → x_OKs p l e R s mid args below meth c Q D cl B0 sc (x_maxL P m) ρ0 ad0 pc L st cc ss h E)
    (hdec : decode (x_by P m) pc = .ok (.invokevirtual idx, 3)) (hinv : x_invV P m pc L st cc ss fs h E idx = some lst) (hall : ∀ S' ∈ lst, x_run P k S' = true) :
    x_OKs p l e R s mid args below meth c Q D cl B0 sc (x_maxL P m) ρ0 ad0 pc L st cc ss h E := by
  have hpool := hOK.2.2.1 m idx
  unfold x_invV at hinv
  split at hinv
  next j n hp =>
    rw [hp] at hpool
    obtain ⟨hm, ha, q1, q2, q3, C, q4, q5⟩ := hpool
    split at hinv
    next b kk rest hdrop =>
      split at hinv
      next ci fl hcell =>
        split at hinv
        next hci =>
          refine x_w_inv hOK hS ctx hd40 hscr hend hm hinv hall ?_
          intro ρ ad H locs ls stc d1 d2 d3 d4 d5 h3 hr
          have t1 := h3.take n.toNat
          have t2 := h3.drop n.toNat
          rw [hdrop] at t2
          obtain ⟨x, restc, t3, t4, t5⟩ := t2.cons
          obtain ⟨a, rfl, t6⟩ := t4
          have hstc : stc = stc.take n.toNat ++ .ref a :: restc := by rw [← t3, List.take_append_drop]
          have hlen : (stc.take n.toNat).length = n.toNat := by rw [← t1.len]; exact hci.2
          refine ⟨.ref a :: (stc.take n.toNat).reverse, restc, ⟨⟨a, rfl, t6⟩, t1.rev⟩, t5, fun Qc M => ?_⟩
          have hr0 := hr
          obtain ⟨ws, tys, aK, aP, aD, aS, aH, aE⟩ := hr
          obtain ⟨ev, w1, w2⟩ := aH.at hcell t6
          obtain ⟨xs, rfl, w3⟩ := w2
          obtain ⟨hx, hb, hrt, hml, hown, hts, hnest, hlocks, hnm, hB, hR1, hR2, hR3, hR4⟩ := ctx
          have hcl : cl[ci]? = some C := by rw [hci.1]; exact q4
          have hrec := va_recv aK aP hcl w1
          rw [q5] at hrec
          refine va_runV (C := (x_nm P j).cls) (n := n.toNat) (As := (stc.take n.toNat).reverse) ⟨hx, hb, hml, hown, hts⟩ M
            ⟨callB_of n.toNat hts (x_goodIn hm.1) rfl rfl rfl (hts _ hm.2.1) (hts _ q1) ⟨hm.2.2.2.1.1, hm.2.2.2.1.2, ha⟩ (x_room d1 d2 hR1 hR2), hts _ q2, hts _ q3⟩
            ⟨x_blind, hrec, fun U hU hW => ⟨rfl, x_B_of hr0 hB hnest U hU hW⟩⟩ rfl (by rw [List.length_reverse]; exact hlen) d5 (by show stc = _; rw [List.reverse_reverse]; exact hstc) (lv_room (by rw [x_cats t5]; exact d4)) hdec d3
        next => cases hinv
      next => cases hinv
    next => cases hinv
  next => cases hinv
theorem x_w_invS {k idx : Nat} {lst : List xS} (hOK : x_OK cl P) (hS : ∀ n', n' ≤ k → x_Snd P D cl B0 sc l n') (ctx : x_Ctx P B0 p R s mid args meth c m fs.length) (hd40 : fs.length ≤ 40) (hscr : m = 0 → x_Scr B0 sc ρ0 s)
    (hend : ∀ (n' pc : Nat) (L : List (Nat × xV)) (st : List xV) (cc ss : Nat) (h : List xC) (E : xE) (i : Instr) (len : Nat), n' ≤ k + 1 → x_code P m pc = some (i, len) → x_isRet i → x_run P n' ((m, pc, L, st, cc, ss) :: fs, h, E) = true → x_OKs p l e R s mid args below meth c Q D cl B0 sc (x_maxL P m) ρ0 ad0 pc L st cc ss h E)
    (nx : ∀ (pc' : Nat) (L' : List (Nat × xV)) (st' : List xV) (cc' ss' : Nat) (h' : List xC) (E' : xE), ((m, pc', L', st', cc', ss') :: fs, h', E') ∈ lst → x_OKs p l e R s mid args below meth c Q D cl B0 sc (x_maxL P m) ρ0 ad0 pc' L' st' cc' ss' h' E')
    (hdec : decode (x_by P m) pc = .ok (.invokestatic idx, 3)) (hinv : x_invS P m pc L st cc ss fs h E idx = some lst) (hall : ∀ S' ∈ lst, x_run P k S' = true) :
    x_OKs p l e R s mid args below meth c Q D cl B0 sc (x_maxL P m) ρ0 ad0 pc L st cc ss h E := by
  have hpool := hOK.2.2.1 m idx
  unfold x_invS at hinv
  split at hinv
  next j n hp =>
    rw [hp] at hpool
    obtain ⟨hm, ha, q1, q2⟩ := hpool
    split at hinv
    next hci =>
      refine x_w_inv hOK hS ctx hd40 hscr hend hm hinv hall ?_
      intro ρ ad H locs ls stc d1 d2 d3 d4 d5 h3 hr
      have t1 := h3.take n.toNat
      have t2 := h3.drop n.toNat
      have hlen : (stc.take n.toNat).length = n.toNat := by rw [← t1.len]; exact hci
      refine ⟨(stc.take n.toNat).reverse, stc.drop n.toNat, t1.rev, t2, fun Qc M => ?_⟩
      obtain ⟨hx, hb, hrt, hml, hown, hts, hnest, hlocks, hnm, hB, hR1, hR2, hR3, hR4⟩ := ctx
      refine va_runS (n := n.toNat) (As := (stc.take n.toNat).reverse) ⟨hx, hb, hml, hown, hts⟩ M
        ⟨callB_of n.toNat hts (x_goodIn hm.1) rfl rfl rfl (hts _ hm.2.1) (hts _ q1) ⟨hm.2.2.2.1.1, hm.2.2.2.1.2, ha⟩ (x_room d1 d2 hR1 hR2), hts _ q2⟩
        ⟨x_blind, fun U hU hW => ⟨rfl, x_B_of hr hB hnest U hU hW⟩⟩ rfl (by rw [List.length_reverse]; exact hlen) d5 (by show stc = _; rw [List.reverse_reverse, List.take_append_drop]) (lv_room (by rw [x_cats t2]; exact d4)) hdec d3
    next => cases hinv
  next z1 z2 hp =>
    rw [hp] at hpool
    obtain ⟨hx, hb, hrt, hml, hown, hts, hnest, hlocks, hnm, hB, hR1, hR2, hR3, hR4⟩ := ctx
    unfold x_cpy at hinv
    split at hinv
    next nn dp b1 kd sp b2 ks r =>
      split at hinv
      next n0 lo0 hi0 n1 lo1 hi1 e1 e2 =>
        split at hinv
        next hc =>
          cases hinv
          exact x_w_cpy hx hb hml hown hts hpool hdec (by omega) (by omega) e1 e2 hc.1 hc.2.1 hc.2.2.1 hc.2.2.2.1 hc.2.2.2.2.1 hc.2.2.2.2.2 (nx _ _ _ _ _ _ _ (List.mem_singleton.mpr rfl))
        next => cases hinv
      next => cases hinv
    next => cases hinv
  next => cases hinv
theorem x_w_invI {k idx : Nat} {lst : List xS} (hOK : x_OK cl P) (hS : ∀ n', n' ≤ k → x_Snd P D cl B0 sc l n') (ctx : x_Ctx P B0 p R s mid args meth c m fs.length) (hd40 : fs.length ≤ 40) (hscr : m = 0 → x_Scr B0 sc ρ0 s)
    (hend : ∀ (n' pc : Nat) (L : List (Nat × xV)) (st : List xV) (cc ss : Nat) (h : List xC) (E : xE) (i : Instr) (len : Nat), n' ≤ k + 1 → x_code P m pc = some (i, len) → x_isRet i → x_run P n' ((m, pc, L, st, cc, ss) :: fs, h, E) = true → x_OKs p l e R s mid args below meth c Q D cl B0 sc (x_maxL P m) ρ0 ad0 pc L st cc ss h E)
    (nx : ∀ (pc' : Nat) (L' : List (Nat × xV)) (st' : List xV) (cc' ss' : Nat) (h' : List xC) (E' : xE), ((m, pc', L', st', cc', ss') :: fs, h', E') ∈ lst → x_OKs p l e R s mid args below meth c Q D cl B0 sc (x_maxL P m) ρ0 ad0 pc' L' st' cc' ss' h' E')
    (hdec : decode (x_by P m) pc = .ok (.invokespecial idx, 3)) (hinv : x_invI P m pc L st cc ss fs h E idx = some lst) (hall : ∀ S' ∈ lst, x_run P k S' = true) :
    x_OKs p l e R s mid args below meth c Q D cl B0 sc (x_maxL P m) ρ0 ad0 pc L st cc ss h E := by
  have hpool := hOK.2.2.1 m idx
  unfold x_invI at hinv
  split at hinv
  next j n hp =>
    rw [hp] at hpool
    obtain ⟨hm, ha, q1, q2, q3, q4⟩ := hpool
    have q4 : x_rt P j = none := q4
    split at hinv
    next b kk rest hdrop =>
      split at hinv
      next hci =>
        refine x_w_inv hOK hS ctx hd40 hscr hend hm hinv hall ?_
        intro ρ ad H locs ls stc d1 d2 d3 d4 d5 h3 hr
        have t1 := h3.take n.toNat
        have t2 := h3.drop n.toNat
        rw [hdrop] at t2
        obtain ⟨x, restc, t3, t4, t5⟩ := t2.cons
        obtain ⟨a, rfl, t6⟩ := t4
        have hstc : stc = stc.take n.toNat ++ .ref a :: restc := by rw [← t3, List.take_append_drop]
        have hlen : (stc.take n.toNat).length = n.toNat := by rw [← t1.len]; exact hci
        refine ⟨.ref a :: (stc.take n.toNat).reverse, restc, ⟨⟨a, rfl, t6⟩, t1.rev⟩, t5, fun Qc M => ?_⟩
        obtain ⟨hx, hb, hrt, hml, hown, hts, hnest, hlocks, hnm, hB, hR1, hR2, hR3, hR4⟩ := ctx
        refine va_runI (n := n.toNat) (As := (stc.take n.toNat).reverse) ⟨hx, hb, hml, hown, hts⟩ M
          ⟨callB_of n.toNat hts (x_goodIn hm.1) (by unfold x_ws; rw [q4]) rfl rfl (hts _ hm.2.1) (hts _ q1) ⟨hm.2.2.2.1.1, hm.2.2.2.1.2, ha⟩ (x_room d1 d2 hR1 hR2), q3, hts _ q2⟩
          ⟨x_blind, fun U hU hW => ⟨rfl, x_B_of hr hB hnest U hU hW⟩⟩ rfl (by rw [List.length_reverse]; exact hlen) d5 (by show stc = _; rw [List.reverse_reverse]; exact hstc) (lv_room (by rw [x_cats t5]; exact d4)) hdec d3
      next => cases hinv
    next => cases hinv
  next j n hp =>
    rw [hp] at hpool
    obtain ⟨hm, ha, ⟨host, q1⟩, q2, q3, q4⟩ := hpool
    have q4 : x_rt P j = none := q4
    split at hinv
    next b kk rest hdrop =>
      split at hinv
      next hci =>
        refine x_w_inv hOK hS ctx hd40 hscr hend hm hinv hall ?_
        intro ρ ad H locs ls stc d1 d2 d3 d4 d5 h3 hr
        have t1 := h3.take n.toNat
        have t2 := h3.drop n.toNat
        rw [hdrop] at t2
        obtain ⟨x, restc, t3, t4, t5⟩ := t2.cons
        obtain ⟨a, rfl, t6⟩ := t4
        have hstc : stc = stc.take n.toNat ++ .ref a :: restc := by rw [← t3, List.take_append_drop]
        have hlen : (stc.take n.toNat).length = n.toNat := by rw [← t1.len]; exact hci
        refine ⟨.ref a :: (stc.take n.toNat).reverse, restc, ⟨⟨a, rfl, t6⟩, t1.rev⟩, t5, fun Qc M => ?_⟩
        obtain ⟨hx, hb, hrt, hml, hown, hts, hnest, hlocks, hnm, hB, hR1, hR2, hR3, hR4⟩ := ctx
        refine va_runIN (n := n.toNat) (As := (stc.take n.toNat).reverse) ⟨hx, hb, hml, hown, hts⟩ M
          ⟨va_cnB n.toNat hts (x_goodIn hm.1) (by unfold x_ws; rw [q4]) rfl rfl (hnest _ q1) (hts _ hm.2.1) ⟨hm.2.2.2.1.1, hm.2.2.2.1.2, ha⟩ (x_room d1 d2 hR1 hR2), q3, hts _ q2⟩
          ⟨x_blind, fun U hU hW => ⟨rfl, x_B_of hr hB hnest U hU hW⟩⟩ rfl (by rw [List.length_reverse]; exact hlen) d5 (by show stc = _; rw [List.reverse_reverse]; exact hstc) (lv_room (by rw [x_cats t5]; exact d4)) hdec d3
      next => cases hinv
    next => cases hinv
  next z1 z2 hp =>
    rw [hp] at hpool
    obtain ⟨hx, hb, hrt, hml, hown, hts, hnest, hlocks, hnm, hB, hR1, hR2, hR3, hR4⟩ := ctx
    split at hinv
    next b kk r =>
      split at hinv
      next hc =>
        cases hinv
        exact x_w_oinit hx hb hml hown hts hpool hdec (by omega) (by omega) hc (nx _ _ _ _ _ _ _ (List.mem_singleton.mpr rfl))
      next => cases hinv
    next => cases hinv
  next => cases hinv
end XI
end
section
theorem x_swI_mem {m pc : Nat} {L : List (Nat × xV)} {cc ss : Nat} {fs : List xF} {h : List xC} {E : xE} {v : xV} {r : List xV} {lo : Int} {off : Int} {S : xS} : ∀ {offs : List Int} {k i : Nat}, offs[i]? = some off → x_can .eq (x_iv E v) (lo + (k + i : Nat), lo + (k + i : Nat)) = true → S = x_at m cc ss fs h ((pc : Int) + off).toNat L r (x_cap E v (lo + (k + i : Nat)) (lo + (k + i : Nat))) → S ∈ x_swI m pc L cc ss fs h E v r lo k offs
  | [], _, i, h1, _, _ => by simp at h1
  | o :: offs, k, 0, h1, h2, h3 => by
    have h1 : o = off := by simpa using h1
    subst h1
    unfold x_swI
    rw [Nat.add_zero] at h2 h3
    rw [if_pos h2]
    exact List.mem_append_left _ (List.mem_singleton.mpr h3)
  | o :: offs, k, i + 1, h1, h2, h3 => by
    unfold x_swI
    refine List.mem_append_right _ (x_swI_mem (k := k + 1) (i := i) (by simpa using h1) ?_ ?_)
    · rw [show k + 1 + i = k + (i + 1) by omega]; exact h2
    · rw [show k + 1 + i = k + (i + 1) by omega]; exact h3
/-- a constructor's own class -/
theorem x_own {cl : List vw_C} {P : xP} {m idx ci : Nat} {f : Int} {C : vw_C} (hOK : x_OK cl P) (hp : x_okp cl P (x_nm P m).cls idx (1, ci, f)) (hC : cl[ci]? = some C) (h1 : (x_nm P m).name = "<init>") (h2 : x_mci P m = ci) : C.1 = (x_nm P m).cls := hOK.2.2.2.2.2.2 m C h1 (by rw [h2]; exact hC)
/-! the induction over the steps -/
theorem x_len {len n : Nat} (h : (len == n) = true) : len = n := by simpa using h
set_option maxHeartbeats 4000000 in
theorem x_snd {P : xP} {D : va_G} {cl : List vw_C} {B0 sc : Nat} {l : Launch} (hOK : x_OK cl P) : ∀ n, x_Snd P D cl B0 sc l n := by
  intro n
  induction n using Nat.strongRecOn with
  | _ n ih =>
  intro m pc L st cc ss fs h E hrun p e R s mid args below meth c Q ρ0 ad0 ctx hd40 hscr hend
  cases n with
  | zero => cases hrun
  | succ k =>
  obtain ⟨lst, hstep, hall⟩ := x_run_ok hrun
  have hctx := ctx
  obtain ⟨hx, hb, hrt, hml, hown, hts, hnest, hlocks, hnm, hB, hR1, hR2, hR3, hR4⟩ := ctx
  cases hcode : x_code P m pc with
  | none => simp [x_step, hcode] at hstep
  | some q =>
  obtain ⟨i, len⟩ := q
  have hins : x_ins P m pc L st cc ss fs h E i len = some lst := by
    have : x_step P ((m, pc, L, st, cc, ss) :: fs, h, E) = x_ins P m pc L st cc ss fs h E i len := by simp only [x_step, hcode]
    rw [← this]
    exact hstep
  have hd := hOK.1 m pc i len hcode
  have hS : ∀ n', n' ≤ k → x_Snd P D cl B0 sc l n' := fun n' hn => ih n' (by omega)
  have nx : ∀ (pc' : Nat) (L' : List (Nat × xV)) (st' : List xV) (cc' ss' : Nat) (h' : List xC) (E' : xE), ((m, pc', L', st', cc', ss') :: fs, h', E') ∈ lst → x_OKs p l e R s mid args below meth c Q D cl B0 sc (x_maxL P m) ρ0 ad0 pc' L' st' cc' ss' h' E' :=
    fun pc' L' st' cc' ss' h' E' hm => hS k (Nat.le_refl _) m pc' L' st' cc' ss' fs h' E' (hall _ hm) p e R s mid args below meth c Q ρ0 ad0 hctx hd40 hscr (fun n2 pc2 L2 st2 cc2 ss2 h2 E2 i2 len2 hn2 => hend n2 pc2 L2 st2 cc2 ss2 h2 E2 i2 len2 (by omega))
  clear hstep ih
  cases i
  case iconst z =>
    obtain ⟨b1, b2⟩ := x_if_ok (show x_if (len == 1) (x_push1 m pc L st cc ss fs h E 1 (0, none, (Int32.ofInt z).toInt)) = some lst from hins)
    cases x_len b1
    cases b2
    exact x_w_push (n := 1) (v := (0, none, (Int32.ofInt z).toInt)) (fun k => lv_iconst hx hb hd rfl k) (fun _ _ => ⟨_, rfl, rfl⟩) (nx _ _ _ _ _ _ _ (List.mem_singleton.mpr rfl))
  case bipush z =>
    obtain ⟨b1, b2⟩ := x_if_ok (show x_if (len == 2) (x_push1 m pc L st cc ss fs h E 2 (0, none, (Int8.ofInt z).toInt32.toInt)) = some lst from hins)
    cases x_len b1
    cases b2
    exact x_w_push (n := 2) (v := (0, none, (Int8.ofInt z).toInt32.toInt)) (fun k => lv_bipush hx hb hd rfl k) (fun _ _ => ⟨_, rfl, rfl⟩) (nx _ _ _ _ _ _ _ (List.mem_singleton.mpr rfl))
  case sipush z =>
    obtain ⟨b1, b2⟩ := x_if_ok (show x_if (len == 3) (x_push1 m pc L st cc ss fs h E 3 (0, none, (Int16.ofInt z).toInt32.toInt)) = some lst from hins)
    cases x_len b1
    cases b2
    exact x_w_push (n := 3) (v := (0, none, (Int16.ofInt z).toInt32.toInt)) (fun k => lv_sipush hx hb hd rfl k) (fun _ _ => ⟨_, rfl, rfl⟩) (nx _ _ _ _ _ _ _ (List.mem_singleton.mpr rfl))
  case lconst z =>
    obtain ⟨b1, b2⟩ := x_if_ok (show x_if (len == 1) (x_push1 m pc L st cc ss fs h E 1 (1, none, (Int64.ofNat (z : Nat)).toInt)) = some lst from hins)
    cases x_len b1
    cases b2
    exact x_w_push (n := 1) (v := (1, none, (Int64.ofNat (z : Nat)).toInt)) (fun k => lv_lconst hx hb hd rfl k) (fun _ _ => ⟨_, rfl, rfl⟩) (nx _ _ _ _ _ _ _ (List.mem_singleton.mpr rfl))
  case ldc idx =>
    obtain ⟨b1, b2⟩ := x_if_ok (show x_if (len == 2) (match x_pool P m idx with | (7, _, c) => x_push1 m pc L st cc ss fs h E 2 (0, none, c) | _ => none) = some lst from hins)
    cases x_len b1
    have hpool := hOK.2.2.1 m idx
    split at b2
    · next z1 z2 hp =>
        rw [hp] at hpool
        obtain ⟨v, q1, q2⟩ := hpool
        cases b2
        exact x_w_push (n := 2) (v := (0, none, z2)) (fun k => lv_ldc hx hb hown (hts _ q1) hd k) (fun _ _ => ⟨v, rfl, q2⟩) (nx _ _ _ _ _ _ _ (List.mem_singleton.mpr rfl))
    · cases b2
  case ldc_w idx =>
    obtain ⟨b1, b2⟩ := x_if_ok (show x_if (len == 3) (match x_pool P m idx with | (7, _, c) => x_push1 m pc L st cc ss fs h E 3 (0, none, c) | _ => none) = some lst from hins)
    cases x_len b1
    have hpool := hOK.2.2.1 m idx
    split at b2
    · next z1 z2 hp =>
        rw [hp] at hpool
        obtain ⟨v, q1, q2⟩ := hpool
        cases b2
        exact x_w_push (n := 3) (v := (0, none, z2)) (fun k => lv_ldcw hx hb hown (hts _ q1) hd k) (fun _ _ => ⟨v, rfl, q2⟩) (nx _ _ _ _ _ _ _ (List.mem_singleton.mpr rfl))
    · cases b2
  case ldc2_w idx =>
    obtain ⟨b1, b2⟩ := x_if_ok (show x_if (len == 3) (match x_pool P m idx with | (8, _, c) => x_push1 m pc L st cc ss fs h E 3 (1, none, c) | _ => none) = some lst from hins)
    cases x_len b1
    have hpool := hOK.2.2.1 m idx
    split at b2
    · next z1 z2 hp =>
        rw [hp] at hpool
        obtain ⟨v, q1, q2⟩ := hpool
        cases b2
        exact x_w_push (n := 3) (v := (1, none, z2)) (fun k => lv_ldc2 hx hb hown (hts _ q1) hd k) (fun _ _ => ⟨v, rfl, q2⟩) (nx _ _ _ _ _ _ _ (List.mem_singleton.mpr rfl))
    · cases b2
  case iload z =>
    obtain ⟨b1, b2⟩ := x_if_ok (show x_if (len == 2) (x_ld m pc L st cc ss fs h E 2 0 z) = some lst from hins)
    cases x_len b1
    unfold x_ld at b2
    split at b2
    · next v hv =>
        split at b2
        · next ht =>
            cases b2
            refine x_w_load (n := 2) hv (fun {x ρ ad H locs ls rest} g hl k => ?_) (nx _ _ _ _ _ _ _ (List.mem_singleton.mpr rfl))
            obtain ⟨a, rfl, -⟩ := g.int ht
            exact lv_iload hx hb hd hl k
        · cases b2
    · cases b2
  case iload_n z =>
    obtain ⟨b1, b2⟩ := x_if_ok (show x_if (len == 1) (x_ld m pc L st cc ss fs h E 1 0 (z : Nat)) = some lst from hins)
    cases x_len b1
    unfold x_ld at b2
    split at b2
    · next v hv =>
        split at b2
        · next ht =>
            cases b2
            refine x_w_load (n := 1) hv (fun {x ρ ad H locs ls rest} g hl k => ?_) (nx _ _ _ _ _ _ _ (List.mem_singleton.mpr rfl))
            obtain ⟨a, rfl, -⟩ := g.int ht
            exact lv_iload_n hx hb hd rfl hl k
        · cases b2
    · cases b2
  case lload z =>
    obtain ⟨b1, b2⟩ := x_if_ok (show x_if (len == 2) (x_ld m pc L st cc ss fs h E 2 1 z) = some lst from hins)
    cases x_len b1
    unfold x_ld at b2
    split at b2
    · next v hv =>
        split at b2
        · next ht =>
            cases b2
            refine x_w_load (n := 2) hv (fun {x ρ ad H locs ls rest} g hl k => ?_) (nx _ _ _ _ _ _ _ (List.mem_singleton.mpr rfl))
            obtain ⟨a, rfl, -⟩ := g.long ht
            exact lv_lload hx hb hd hl k
        · cases b2
    · cases b2
  case lload_n z =>
    obtain ⟨b1, b2⟩ := x_if_ok (show x_if (len == 1) (x_ld m pc L st cc ss fs h E 1 1 (z : Nat)) = some lst from hins)
    cases x_len b1
    unfold x_ld at b2
    split at b2
    · next v hv =>
        split at b2
        · next ht =>
            cases b2
            refine x_w_load (n := 1) hv (fun {x ρ ad H locs ls rest} g hl k => ?_) (nx _ _ _ _ _ _ _ (List.mem_singleton.mpr rfl))
            obtain ⟨a, rfl, -⟩ := g.long ht
            exact lv_lload_n hx hb hd rfl hl k
        · cases b2
    · cases b2
  case aload z =>
    obtain ⟨b1, b2⟩ := x_if_ok (show x_if (len == 2) (x_lda m pc L st cc ss fs h E 2 z) = some lst from hins)
    cases x_len b1
    unfold x_lda at b2
    split at b2
    · next v hv =>
        split at b2
        · next ht =>
            cases b2
            refine x_w_load (n := 2) hv (fun {x ρ ad H locs ls rest} g hl k => ?_) (nx _ _ _ _ _ _ _ (List.mem_singleton.mpr rfl))
            have hx9 : ∃ a, x = .ref a := by
              obtain ⟨t9, b9, c9⟩ := v
              rcases ht with ht | ht
              · have ht : t9 = 3 := ht
                subst ht
                obtain ⟨a, g1, -⟩ := g
                exact ⟨a, g1⟩
              · have ht : t9 = 4 := ht
                subst ht
                exact ⟨sc, g⟩
            obtain ⟨a, rfl⟩ := hx9
            exact lv_aload hx hb hd hl k
        · cases b2
    · cases b2
  case aload_n z =>
    obtain ⟨b1, b2⟩ := x_if_ok (show x_if (len == 1) (x_lda m pc L st cc ss fs h E 1 (z : Nat)) = some lst from hins)
    cases x_len b1
    unfold x_lda at b2
    split at b2
    · next v hv =>
        split at b2
        · next ht =>
            cases b2
            refine x_w_load (n := 1) hv (fun {x ρ ad H locs ls rest} g hl k => ?_) (nx _ _ _ _ _ _ _ (List.mem_singleton.mpr rfl))
            have hx9 : ∃ a, x = .ref a := by
              obtain ⟨t9, b9, c9⟩ := v
              rcases ht with ht | ht
              · have ht : t9 = 3 := ht
                subst ht
                obtain ⟨a, g1, -⟩ := g
                exact ⟨a, g1⟩
              · have ht : t9 = 4 := ht
                subst ht
                exact ⟨sc, g⟩
            obtain ⟨a, rfl⟩ := hx9
            exact lv_aload_n hx hb hd rfl hl k
        · cases b2
    · cases b2
  case istore z =>
    obtain ⟨b1, b2⟩ := x_if_ok (show x_if (len == 2) (x_st P m pc L st cc ss fs h E 2 z) = some lst from hins)
    cases x_len b1
    cases st with
    | nil => cases b2
    | cons v r =>
      unfold x_st at b2
      dsimp only at b2
      split at b2
      · next ht =>
          cases b2
          refine x_w_store1 (n := 2) (i := z) (fun {x ρ ad H locs ls rest lv lv'} g hl hl2 k => ?_) (nx _ _ _ _ _ _ _ (List.mem_singleton.mpr rfl))
          obtain ⟨a, rfl, -⟩ := g.int ht.1
          exact lv_istore hx hb hd hl ht.2 hl2 k
      · cases b2
  case istore_n z =>
    obtain ⟨b1, b2⟩ := x_if_ok (show x_if (len == 1) (x_st P m pc L st cc ss fs h E 1 (z : Nat)) = some lst from hins)
    cases x_len b1
    cases st with
    | nil => cases b2
    | cons v r =>
      unfold x_st at b2
      dsimp only at b2
      split at b2
      · next ht =>
          cases b2
          refine x_w_store1 (n := 1) (i := (z : Nat)) (fun {x ρ ad H locs ls rest lv lv'} g hl hl2 k => ?_) (nx _ _ _ _ _ _ _ (List.mem_singleton.mpr rfl))
          obtain ⟨a, rfl, -⟩ := g.int ht.1
          exact lv_istore_n hx hb hd rfl hl ht.2 hl2 k
      · cases b2
  case lstore z =>
    obtain ⟨b1, b2⟩ := x_if_ok (show x_if (len == 2) (x_stL P m pc L st cc ss fs h E 2 z) = some lst from hins)
    cases x_len b1
    cases st with
    | nil => cases b2
    | cons v r =>
      unfold x_stL at b2
      dsimp only at b2
      split at b2
      · next ht =>
          cases b2
          refine x_w_store2 (n := 2) (i := z) (fun {x ρ ad H locs ls rest lv lv'} g hl hl2 k => ?_) (nx _ _ _ _ _ _ _ (List.mem_singleton.mpr rfl))
          obtain ⟨a, rfl, -⟩ := g.long ht.1
          exact lv_lstore hx hb hd hl ht.2 hl2 k
      · cases b2
  case lstore_n z =>
    obtain ⟨b1, b2⟩ := x_if_ok (show x_if (len == 1) (x_stL P m pc L st cc ss fs h E 1 (z : Nat)) = some lst from hins)
    cases x_len b1
    cases st with
    | nil => cases b2
    | cons v r =>
      unfold x_stL at b2
      dsimp only at b2
      split at b2
      · next ht =>
          cases b2
          refine x_w_store2 (n := 1) (i := (z : Nat)) (fun {x ρ ad H locs ls rest lv lv'} g hl hl2 k => ?_) (nx _ _ _ _ _ _ _ (List.mem_singleton.mpr rfl))
          obtain ⟨a, rfl, -⟩ := g.long ht.1
          exact lv_lstore_n hx hb hd rfl hl ht.2 hl2 k
      · cases b2
  case astore z =>
    obtain ⟨b1, b2⟩ := x_if_ok (show x_if (len == 2) (x_stA P m pc L st cc ss fs h E 2 z) = some lst from hins)
    cases x_len b1
    cases st with
    | nil => cases b2
    | cons v r =>
      unfold x_stA at b2
      dsimp only at b2
      split at b2
      · next ht =>
          cases b2
          refine x_w_store1 (n := 2) (i := z) (fun {x ρ ad H locs ls rest lv lv'} g hl hl2 k => ?_) (nx _ _ _ _ _ _ _ (List.mem_singleton.mpr rfl))
          obtain ⟨a, rfl, -⟩ := g.ref ht.1
          exact lv_astore hx hb hd hl ht.2 hl2 k
      · cases b2
  case astore_n z =>
    obtain ⟨b1, b2⟩ := x_if_ok (show x_if (len == 1) (x_stA P m pc L st cc ss fs h E 1 (z : Nat)) = some lst from hins)
    cases x_len b1
    cases st with
    | nil => cases b2
    | cons v r =>
      unfold x_stA at b2
      dsimp only at b2
      split at b2
      · next ht =>
          cases b2
          refine x_w_store1 (n := 1) (i := (z : Nat)) (fun {x ρ ad H locs ls rest lv lv'} g hl hl2 k => ?_) (nx _ _ _ _ _ _ _ (List.mem_singleton.mpr rfl))
          obtain ⟨a, rfl, -⟩ := g.ref ht.1
          exact lv_astore_n hx hb hd rfl hl ht.2 hl2 k
      · cases b2
  case iinc z zc =>
    obtain ⟨b1, b2⟩ := x_if_ok (show x_if (len == 3) (match x_find L z with | some v => if v.1 = 0 ∧ z < x_maxL P m then some [x_at m cc ss fs h (pc + 3) (x_put1 L z (x_addc E v (Int32.ofInt zc).toInt).1) st (x_addc E v (Int32.ofInt zc).toInt).2] else none | none => none) = some lst from hins)
    cases x_len b1
    split at b2
    · next v hv =>
        split at b2
        · next ht =>
            cases b2
            exact x_w_iinc hx hb hd hv ht.1 ht.2 (nx _ _ _ _ _ _ _ (List.mem_singleton.mpr rfl))
        · cases b2
    · cases b2
  case iadd =>
    obtain ⟨b1, b2⟩ := x_if_ok (show x_if (len == 1) (x_op2 m pc L st cc ss fs h E x_add) = some lst from hins)
    cases x_len b1
    unfold x_op2 at b2
    split at b2
    · next w v r =>
        split at b2
        · next ht =>
            cases b2
            exact x_w_op2 x_add (· + ·) (fun h1 h2 h3 => x_add_ok h1 h2 h3) (fun _ _ k => lv_iadd hx hb hd k) ht.1 ht.2 (nx _ _ _ _ _ _ _ (List.mem_singleton.mpr rfl))
        · cases b2
    · cases b2
  case isub =>
    obtain ⟨b1, b2⟩ := x_if_ok (show x_if (len == 1) (x_op2 m pc L st cc ss fs h E x_sub) = some lst from hins)
    cases x_len b1
    unfold x_op2 at b2
    split at b2
    · next w v r =>
        split at b2
        · next ht =>
            cases b2
            exact x_w_op2 x_sub (· - ·) (fun h1 h2 h3 => x_sub_ok h1 h2 h3) (fun _ _ k => lv_isub hx hb hd k) ht.1 ht.2 (nx _ _ _ _ _ _ _ (List.mem_singleton.mpr rfl))
        · cases b2
    · cases b2
  case imul =>
    obtain ⟨b1, b2⟩ := x_if_ok (show x_if (len == 1) (x_op2 m pc L st cc ss fs h E (x_bin (· * ·))) = some lst from hins)
    cases x_len b1
    unfold x_op2 at b2
    split at b2
    · next w v r =>
        split at b2
        · next ht =>
            cases b2
            exact x_w_op2 (x_bin (· * ·)) (· * ·) (fun h1 h2 h3 => x_bin_ok (· * ·) h1 h2 h3) (fun _ _ k => lv_imul hx hb hd k) ht.1 ht.2 (nx _ _ _ _ _ _ _ (List.mem_singleton.mpr rfl))
        · cases b2
    · cases b2
  case iand =>
    obtain ⟨b1, b2⟩ := x_if_ok (show x_if (len == 1) (x_op2 m pc L st cc ss fs h E (x_bin (· &&& ·))) = some lst from hins)
    cases x_len b1
    unfold x_op2 at b2
    split at b2
    · next w v r =>
        split at b2
        · next ht =>
            cases b2
            exact x_w_op2 (x_bin (· &&& ·)) (· &&& ·) (fun h1 h2 h3 => x_bin_ok (· &&& ·) h1 h2 h3) (fun _ _ k => lv_iand hx hb hd k) ht.1 ht.2 (nx _ _ _ _ _ _ _ (List.mem_singleton.mpr rfl))
        · cases b2
    · cases b2
  case ior =>
    obtain ⟨b1, b2⟩ := x_if_ok (show x_if (len == 1) (x_op2 m pc L st cc ss fs h E (x_bin (· ||| ·))) = some lst from hins)
    cases x_len b1
    unfold x_op2 at b2
    split at b2
    · next w v r =>
        split at b2
        · next ht =>
            cases b2
            exact x_w_op2 (x_bin (· ||| ·)) (· ||| ·) (fun h1 h2 h3 => x_bin_ok (· ||| ·) h1 h2 h3) (fun _ _ k => lv_ior hx hb hd k) ht.1 ht.2 (nx _ _ _ _ _ _ _ (List.mem_singleton.mpr rfl))
        · cases b2
    · cases b2
  case ixor =>
    obtain ⟨b1, b2⟩ := x_if_ok (show x_if (len == 1) (x_op2 m pc L st cc ss fs h E (x_bin (· ^^^ ·))) = some lst from hins)
    cases x_len b1
    unfold x_op2 at b2
    split at b2
    · next w v r =>
        split at b2
        · next ht =>
            cases b2
            exact x_w_op2 (x_bin (· ^^^ ·)) (· ^^^ ·) (fun h1 h2 h3 => x_bin_ok (· ^^^ ·) h1 h2 h3) (fun _ _ k => lv_ixor hx hb hd k) ht.1 ht.2 (nx _ _ _ _ _ _ _ (List.mem_singleton.mpr rfl))
        · cases b2
    · cases b2
  case ishl =>
    obtain ⟨b1, b2⟩ := x_if_ok (show x_if (len == 1) (x_op2 m pc L st cc ss fs h E (x_bin (fun x y => x <<< (y &&& 31)))) = some lst from hins)
    cases x_len b1
    unfold x_op2 at b2
    split at b2
    · next w v r =>
        split at b2
        · next ht =>
            cases b2
            exact x_w_op2 (x_bin (fun x y => x <<< (y &&& 31))) (fun x y => x <<< (y &&& 31)) (fun h1 h2 h3 => x_bin_ok (fun x y => x <<< (y &&& 31)) h1 h2 h3) (fun _ _ k => lv_ishl hx hb hd k) ht.1 ht.2 (nx _ _ _ _ _ _ _ (List.mem_singleton.mpr rfl))
        · cases b2
    · cases b2
  case ishr =>
    obtain ⟨b1, b2⟩ := x_if_ok (show x_if (len == 1) (x_op2 m pc L st cc ss fs h E (x_bin (fun x y => x >>> (y &&& 31)))) = some lst from hins)
    cases x_len b1
    unfold x_op2 at b2
    split at b2
    · next w v r =>
        split at b2
        · next ht =>
            cases b2
            exact x_w_op2 (x_bin (fun x y => x >>> (y &&& 31))) (fun x y => x >>> (y &&& 31)) (fun h1 h2 h3 => x_bin_ok (fun x y => x >>> (y &&& 31)) h1 h2 h3) (fun _ _ k => lv_ishr hx hb hd k) ht.1 ht.2 (nx _ _ _ _ _ _ _ (List.mem_singleton.mpr rfl))
        · cases b2
    · cases b2
  case iushr =>
    obtain ⟨b1, b2⟩ := x_if_ok (show x_if (len == 1) (x_op2 m pc L st cc ss fs h E (x_bin (fun x y => (x.toUInt32 >>> (y.toUInt32 &&& Int32.toUInt32 31)).toInt32))) = some lst from hins)
    cases x_len b1
    unfold x_op2 at b2
    split at b2
    · next w v r =>
        split at b2
        · next ht =>
            cases b2
            exact x_w_op2 (x_bin (fun x y => (x.toUInt32 >>> (y.toUInt32 &&& Int32.toUInt32 31)).toInt32)) (fun x y => (x.toUInt32 >>> (y.toUInt32 &&& Int32.toUInt32 31)).toInt32) (fun h1 h2 h3 => x_bin_ok (fun x y => (x.toUInt32 >>> (y.toUInt32 &&& Int32.toUInt32 31)).toInt32) h1 h2 h3) (fun _ _ k => lv_iushr hx hb hd rfl k) ht.1 ht.2 (nx _ _ _ _ _ _ _ (List.mem_singleton.mpr rfl))
        · cases b2
    · cases b2
  case idiv =>
    obtain ⟨b1, b2⟩ := x_if_ok (show x_if (len == 1) (x_div m pc L st cc ss fs h E (x_bin (· / ·))) = some lst from hins)
    cases x_len b1
    unfold x_div at b2
    split at b2
    · next w v r =>
        split at b2
        · next ht =>
            cases b2
            exact x_w_op2 (x_bin (· / ·)) (· / ·) (fun h1 h2 h3 => x_bin_ok (· / ·) h1 h2 h3) (fun he hy k => lv_idiv hx hb hd (fun z => x_nz_ok he hy ht.2.2 (by rw [z]; rfl)) k) ht.1 ht.2.1 (nx _ _ _ _ _ _ _ (List.mem_singleton.mpr rfl))
        · cases b2
    · cases b2
  case irem =>
    obtain ⟨b1, b2⟩ := x_if_ok (show x_if (len == 1) (x_div m pc L st cc ss fs h E (x_bin (fun x y => x - x / y * y))) = some lst from hins)
    cases x_len b1
    unfold x_div at b2
    split at b2
    · next w v r =>
        split at b2
        · next ht =>
            cases b2
            exact x_w_op2 (x_bin (fun x y => x - x / y * y)) (fun x y => x - x / y * y) (fun h1 h2 h3 => x_bin_ok (fun x y => x - x / y * y) h1 h2 h3) (fun he hy k => lv_irem hx hb hd (fun z => x_nz_ok he hy ht.2.2 (by rw [z]; rfl)) k) ht.1 ht.2.1 (nx _ _ _ _ _ _ _ (List.mem_singleton.mpr rfl))
        · cases b2
    · cases b2
  case ldiv =>
    obtain ⟨b1, b2⟩ := x_if_ok (show x_if (len == 1) (x_divL m pc L st cc ss fs h E (x_binL (· / ·))) = some lst from hins)
    cases x_len b1
    unfold x_divL at b2
    split at b2
    · next w v r =>
        split at b2
        · next ht =>
            cases b2
            exact x_w_opL (x_binL (· / ·)) (· / ·) (fun h1 h2 h3 => x_binL_ok (· / ·) h1 h2 h3) (fun he hy k => lv_ldiv hx hb hd (fun z => x_nz_ok he hy ht.2.2 (by rw [z]; rfl)) k) ht.1 ht.2.1 (nx _ _ _ _ _ _ _ (List.mem_singleton.mpr rfl))
        · cases b2
    · cases b2
  case lrem =>
    obtain ⟨b1, b2⟩ := x_if_ok (show x_if (len == 1) (x_divL m pc L st cc ss fs h E (x_binL (fun x y => x - x / y * y))) = some lst from hins)
    cases x_len b1
    unfold x_divL at b2
    split at b2
    · next w v r =>
        split at b2
        · next ht =>
            cases b2
            exact x_w_opL (x_binL (fun x y => x - x / y * y)) (fun x y => x - x / y * y) (fun h1 h2 h3 => x_binL_ok (fun x y => x - x / y * y) h1 h2 h3) (fun he hy k => lv_lrem hx hb hd (fun z => x_nz_ok he hy ht.2.2 (by rw [z]; rfl)) k) ht.1 ht.2.1 (nx _ _ _ _ _ _ _ (List.mem_singleton.mpr rfl))
        · cases b2
    · cases b2
  case ladd =>
    obtain ⟨b1, b2⟩ := x_if_ok (show x_if (len == 1) (x_opL m pc L st cc ss fs h E (x_binL (· + ·))) = some lst from hins)
    cases x_len b1
    unfold x_opL at b2
    split at b2
    · next w v r =>
        split at b2
        · next ht =>
            cases b2
            exact x_w_opL (x_binL (· + ·)) (· + ·) (fun h1 h2 h3 => x_binL_ok (· + ·) h1 h2 h3) (fun _ _ k => lv_ladd hx hb hd k) ht.1 ht.2 (nx _ _ _ _ _ _ _ (List.mem_singleton.mpr rfl))
        · cases b2
    · cases b2
  case lsub =>
    obtain ⟨b1, b2⟩ := x_if_ok (show x_if (len == 1) (x_opL m pc L st cc ss fs h E (x_binL (· - ·))) = some lst from hins)
    cases x_len b1
    unfold x_opL at b2
    split at b2
    · next w v r =>
        split at b2
        · next ht =>
            cases b2
            exact x_w_opL (x_binL (· - ·)) (· - ·) (fun h1 h2 h3 => x_binL_ok (· - ·) h1 h2 h3) (fun _ _ k => lv_lsub hx hb hd k) ht.1 ht.2 (nx _ _ _ _ _ _ _ (List.mem_singleton.mpr rfl))
        · cases b2
    · cases b2
  case lmul =>
    obtain ⟨b1, b2⟩ := x_if_ok (show x_if (len == 1) (x_opL m pc L st cc ss fs h E (x_binL (· * ·))) = some lst from hins)
    cases x_len b1
    unfold x_opL at b2
    split at b2
    · next w v r =>
        split at b2
        · next ht =>
            cases b2
            exact x_w_opL (x_binL (· * ·)) (· * ·) (fun h1 h2 h3 => x_binL_ok (· * ·) h1 h2 h3) (fun _ _ k => lv_lmul hx hb hd k) ht.1 ht.2 (nx _ _ _ _ _ _ _ (List.mem_singleton.mpr rfl))
        · cases b2
    · cases b2
  case land =>
    obtain ⟨b1, b2⟩ := x_if_ok (show x_if (len == 1) (x_opL m pc L st cc ss fs h E (x_binL (· &&& ·))) = some lst from hins)
    cases x_len b1
    unfold x_opL at b2
    split at b2
    · next w v r =>
        split at b2
        · next ht =>
            cases b2
            exact x_w_opL (x_binL (· &&& ·)) (· &&& ·) (fun h1 h2 h3 => x_binL_ok (· &&& ·) h1 h2 h3) (fun _ _ k => lv_land hx hb hd k) ht.1 ht.2 (nx _ _ _ _ _ _ _ (List.mem_singleton.mpr rfl))
        · cases b2
    · cases b2
  case lor =>
    obtain ⟨b1, b2⟩ := x_if_ok (show x_if (len == 1) (x_opL m pc L st cc ss fs h E (x_binL (· ||| ·))) = some lst from hins)
    cases x_len b1
    unfold x_opL at b2
    split at b2
    · next w v r =>
        split at b2
        · next ht =>
            cases b2
            exact x_w_opL (x_binL (· ||| ·)) (· ||| ·) (fun h1 h2 h3 => x_binL_ok (· ||| ·) h1 h2 h3) (fun _ _ k => lv_lor hx hb hd k) ht.1 ht.2 (nx _ _ _ _ _ _ _ (List.mem_singleton.mpr rfl))
        · cases b2
    · cases b2
  case lcmp =>
    obtain ⟨b1, b2⟩ := x_if_ok (show x_if (len == 1) (x_opL m pc L st cc ss fs h E x_cmpL) = some lst from hins)
    cases x_len b1
    unfold x_opL at b2
    split at b2
    · next w v r =>
        split at b2
        · next ht =>
            cases b2
            exact x_w_lcmp hx hb hd ht.1 ht.2 (nx _ _ _ _ _ _ _ (List.mem_singleton.mpr rfl))
        · cases b2
    · cases b2
  case lshl =>
    obtain ⟨b1, b2⟩ := x_if_ok (show x_if (len == 1) (x_opS m pc L st cc ss fs h E (x_shL (fun x y => x <<< (y.toInt64 &&& 63)))) = some lst from hins)
    cases x_len b1
    unfold x_opS at b2
    split at b2
    · next w v r =>
        split at b2
        · next ht =>
            cases b2
            exact x_w_opS (x_shL (fun x y => x <<< (y.toInt64 &&& 63))) (fun x y => x <<< (y.toInt64 &&& 63)) (fun h1 h2 h3 => x_shL_ok (fun x y => x <<< (y.toInt64 &&& 63)) h1 h2 h3) (fun k => lv_lshl hx hb hd rfl k) ht.1 ht.2 (nx _ _ _ _ _ _ _ (List.mem_singleton.mpr rfl))
        · cases b2
    · cases b2
  case lshr =>
    obtain ⟨b1, b2⟩ := x_if_ok (show x_if (len == 1) (x_opS m pc L st cc ss fs h E (x_shL (fun x y => x >>> (y.toInt64 &&& 63)))) = some lst from hins)
    cases x_len b1
    unfold x_opS at b2
    split at b2
    · next w v r =>
        split at b2
        · next ht =>
            cases b2
            exact x_w_opS (x_shL (fun x y => x >>> (y.toInt64 &&& 63))) (fun x y => x >>> (y.toInt64 &&& 63)) (fun h1 h2 h3 => x_shL_ok (fun x y => x >>> (y.toInt64 &&& 63)) h1 h2 h3) (fun k => lv_lshr hx hb hd rfl k) ht.1 ht.2 (nx _ _ _ _ _ _ _ (List.mem_singleton.mpr rfl))
        · cases b2
    · cases b2
  case i2l =>
    obtain ⟨b1, b2⟩ := x_if_ok (show x_if (len == 1) (match (generalizing := false) st with | v :: r => if v.1 = 0 then some [x_at m cc ss fs h (pc + 1) L ((1, v.2) :: r) E] else none | [] => none) = some lst from hins)
    cases x_len b1
    split at b2
    · next v r =>
        split at b2
        · next ht =>
            cases b2
            exact x_w_i2l hx hb hd ht (nx _ _ _ _ _ _ _ (List.mem_singleton.mpr rfl))
        · cases b2
    · cases b2
  case l2i =>
    obtain ⟨b1, b2⟩ := x_if_ok (show x_if (len == 1) (match (generalizing := false) st with | v :: r => if v.1 = 1 then some [x_at m cc ss fs h (pc + 1) L ((x_l2i E v).1 :: r) (x_l2i E v).2] else none | [] => none) = some lst from hins)
    cases x_len b1
    split at b2
    · next v r =>
        split at b2
        · next ht =>
            cases b2
            exact x_w_l2i hx hb hd ht (nx _ _ _ _ _ _ _ (List.mem_singleton.mpr rfl))
        · cases b2
    · cases b2
  case dup =>
    obtain ⟨b1, b2⟩ := x_if_ok (show x_if (len == 1) (match (generalizing := false) st with | v :: r => if x_cat v = 1 then some [x_at m cc ss fs h (pc + 1) L (v :: v :: r) E] else none | [] => none) = some lst from hins)
    cases x_len b1
    split at b2
    · next v r =>
        split at b2
        · next ht =>
            cases b2
            exact x_w_dup hx hb hd ht (nx _ _ _ _ _ _ _ (List.mem_singleton.mpr rfl))
        · cases b2
    · cases b2
  case pop =>
    obtain ⟨b1, b2⟩ := x_if_ok (show x_if (len == 1) (match (generalizing := false) st with | v :: r => if x_cat v = 1 then some [x_at m cc ss fs h (pc + 1) L r E] else none | [] => none) = some lst from hins)
    cases x_len b1
    split at b2
    · next v r =>
        split at b2
        · next ht =>
            cases b2
            exact x_w_pop hx hb hd ht (nx _ _ _ _ _ _ _ (List.mem_singleton.mpr rfl))
        · cases b2
    · cases b2
  case dup2 =>
    obtain ⟨b1, b2⟩ := x_if_ok (show x_if (len == 1) (match (generalizing := false) st with | v :: w :: r => if x_cat v = 1 ∧ x_cat w = 1 then some [x_at m cc ss fs h (pc + 1) L (v :: w :: v :: w :: r) E] else none | _ => none) = some lst from hins)
    cases x_len b1
    split at b2
    · next v w r =>
        split at b2
        · next ht =>
            cases b2
            exact x_w_dup2 hx hb hd ht.1 ht.2 (nx _ _ _ _ _ _ _ (List.mem_singleton.mpr rfl))
        · cases b2
    · cases b2
  case ifCond cn off =>
    obtain ⟨b1, b2⟩ := x_if_ok (show x_if (len == 3) (match (generalizing := false) st with | v :: r => x_br m pc L cc ss fs h E cn v (0, none, 0) r off | [] => none) = some lst from hins)
    cases x_len b1
    split at b2
    · next v r =>
        unfold x_br at b2
        split at b2
        · next ht =>
            cases b2
            exact x_w_ifc hx hb hd ht.2.2 ht.1 (fun E9 hm => nx _ _ _ _ _ _ _ (List.mem_append_left _ (List.mem_map.mpr ⟨E9, hm, rfl⟩))) (fun E9 hm => nx _ _ _ _ _ _ _ (List.mem_append_right _ (List.mem_map.mpr ⟨E9, hm, rfl⟩)))
        · cases b2
    · cases b2
  case if_icmp cn off =>
    obtain ⟨b1, b2⟩ := x_if_ok (show x_if (len == 3) (match (generalizing := false) st with | w :: v :: r => x_br m pc L cc ss fs h E cn v w r off | _ => none) = some lst from hins)
    cases x_len b1
    split at b2
    · next w v r =>
        unfold x_br at b2
        split at b2
        · next ht =>
            cases b2
            exact x_w_icmp hx hb hd ht.2.2 ht.1 ht.2.1 (fun E9 hm => nx _ _ _ _ _ _ _ (List.mem_append_left _ (List.mem_map.mpr ⟨E9, hm, rfl⟩))) (fun E9 hm => nx _ _ _ _ _ _ _ (List.mem_append_right _ (List.mem_map.mpr ⟨E9, hm, rfl⟩)))
        · cases b2
    · cases b2
  case goto off =>
    obtain ⟨b1, b2⟩ := x_if_ok (show x_if (len == 3) (if 0 ≤ (pc : Int) + off then some [x_at m cc ss fs h ((pc : Int) + off).toNat L st E] else none) = some lst from hins)
    cases x_len b1
    split at b2
    · next ht =>
        cases b2
        exact x_w_goto hx hb hd ht (nx _ _ _ _ _ _ _ (List.mem_singleton.mpr rfl))
    · cases b2
  case tableswitch dflt lo hi offs =>
    have b2 : (match (generalizing := false) st with | v :: r => x_sw m pc L cc ss fs h E v r dflt lo hi offs.toList | [] => none) = some lst := hins
    split at b2
    · next v r =>
        unfold x_sw at b2
        split at b2
        · next ht =>
            cases b2
            refine x_w_sw hx hb hd ht.1 ht.2.1 (fun o ho => by simpa using List.all_eq_true.mp ht.2.2.1 o ho) ht.2.2.2 (fun hc => nx _ _ _ _ _ _ _ (List.mem_append_left _ (List.mem_append_left _ (by rw [if_pos hc]; exact List.mem_singleton.mpr rfl)))) (fun hc => nx _ _ _ _ _ _ _ (List.mem_append_left _ (List.mem_append_right _ (by rw [if_pos hc]; exact List.mem_singleton.mpr rfl)))) (fun k9 off hk hc => nx _ _ _ _ _ _ _ (List.mem_append_right _ (x_swI_mem (k := 0) hk (by rw [Nat.zero_add]; exact hc) (by rw [Nat.zero_add]; rfl))))
        · cases b2
    · cases b2
  case getfield idx =>
    obtain ⟨b1, b2⟩ := x_if_ok (show x_if (len == 3) (x_getf P m pc L st cc ss fs h E idx) = some lst from hins)
    cases x_len b1
    unfold x_getf at b2
    split at b2
    · next b9 k9 r =>
        split at b2
        · next ci f ci2 vs hp ho =>
            split at b2
            · next hc =>
                subst hc
                split at b2
                · next v hv =>
                    cases b2
                    have hpool := hOK.2.2.1 m idx
                    rw [hp] at hpool
                    exact x_w_get hx hb hown hts hOK.2.1 hpool hd ho hv (nx _ _ _ _ _ _ _ (List.mem_singleton.mpr rfl))
                · cases b2
            · cases b2
        · cases b2
    · cases b2
  case putfield idx =>
    obtain ⟨b1, b2⟩ := x_if_ok (show x_if (len == 3) (x_putf P m pc L st cc ss fs h E idx) = some lst from hins)
    cases x_len b1
    unfold x_putf at b2
    split at b2
    · next v b9 k9 r =>
        split at b2
        · next ci f ci2 vs hp ho =>
            split at b2
            · next hc =>
                obtain ⟨hc1, hc2⟩ := hc
                subst hc1
                split at b2
                · next kd hkd =>
                    split at b2
                    · next hf =>
                        cases b2
                        have hpool := hOK.2.2.1 m idx
                        rw [hp] at hpool
                        exact x_w_put hx hb hown hts hOK.2.1 hpool hd ho hc2 hkd hf.1 (hf.2.elim Or.inl (fun q => Or.inr ⟨hnm.trans q.1, fun C hC => x_own hOK hpool hC q.1 q.2⟩)) (nx _ _ _ _ _ _ _ (List.mem_singleton.mpr rfl))
                    · cases b2
                · cases b2
            · cases b2
        · cases b2
    · cases b2
  case iaload =>
    obtain ⟨b1, b2⟩ := x_if_ok (show x_if (len == 1) (x_ald m pc L st cc ss fs h E 0 0) = some lst from hins)
    cases x_len b1
    unfold x_ald at b2
    split at b2
    · next i9 b9 k9 r =>
        split at b2
        · next a ho =>
            split at b2
            · next hc =>
                split at b2
                · next q hq =>
                    cases b2
                    exact x_w_ald hx hb hd hc.1 hc.2 ho (Or.inl ⟨rfl, rfl, hq⟩) (nx _ _ _ _ _ _ _ (List.mem_singleton.mpr rfl))
                · cases b2
            · cases b2
        · cases b2
    · next i9 b9 k9 r =>
        split at b2
        · next hc =>
            cases b2
            exact x_w_sld hx hb hd (hscr hc.2.1) hc.2.2.1 hc.2.2.2.1 hc.2.2.2.2.1 hc.2.2.2.2.2.1 hc.2.2.2.2.2.2 (nx _ _ _ _ _ _ _ (List.mem_singleton.mpr rfl))
        · cases b2
    · cases b2
  case laload =>
    obtain ⟨b1, b2⟩ := x_if_ok (show x_if (len == 1) (x_ald m pc L st cc ss fs h E 1 1) = some lst from hins)
    cases x_len b1
    unfold x_ald at b2
    split at b2
    · next i9 b9 k9 r =>
        split at b2
        · next a ho =>
            split at b2
            · next hc =>
                split at b2
                · next q hq =>
                    cases b2
                    exact x_w_ald hx hb hd hc.1 hc.2 ho (Or.inr (Or.inl ⟨rfl, rfl, hq⟩)) (nx _ _ _ _ _ _ _ (List.mem_singleton.mpr rfl))
                · cases b2
            · cases b2
        · cases b2
    · next i9 b9 k9 r =>
        split at b2
        · next hc =>
            cases b2
            exact absurd hc.1 (by decide)
        · cases b2
    · cases b2
  case baload =>
    obtain ⟨b1, b2⟩ := x_if_ok (show x_if (len == 1) (x_ald m pc L st cc ss fs h E 0 2) = some lst from hins)
    cases x_len b1
    unfold x_ald at b2
    split at b2
    · next i9 b9 k9 r =>
        split at b2
        · next a ho =>
            split at b2
            · next hc =>
                split at b2
                · next q hq =>
                    cases b2
                    exact x_w_ald hx hb hd hc.1 hc.2 ho (Or.inr (Or.inr ⟨rfl, rfl, hq⟩)) (nx _ _ _ _ _ _ _ (List.mem_singleton.mpr rfl))
                · cases b2
            · cases b2
        · cases b2
    · next i9 b9 k9 r =>
        split at b2
        · next hc =>
            cases b2
            exact absurd hc.1 (by decide)
        · cases b2
    · cases b2
  case iastore =>
    obtain ⟨b1, b2⟩ := x_if_ok (show x_if (len == 1) (x_ast m pc L st cc ss fs h E 0 0) = some lst from hins)
    cases x_len b1
    unfold x_ast at b2
    split at b2
    · next v i9 b9 k9 r =>
        split at b2
        · next a ho =>
            split at b2
            · next hc =>
                split at b2
                · next q hq =>
                    cases b2
                    exact x_w_ast hx hb hd hc.1 hc.2.2.1 ho (Or.inl ⟨rfl, rfl, hc.2.1, hq⟩) (nx _ _ _ _ _ _ _ (List.mem_singleton.mpr rfl))
                · cases b2
            · cases b2
        · cases b2
    · cases b2
  case lastore =>
    obtain ⟨b1, b2⟩ := x_if_ok (show x_if (len == 1) (x_ast m pc L st cc ss fs h E 1 1) = some lst from hins)
    cases x_len b1
    unfold x_ast at b2
    split at b2
    · next v i9 b9 k9 r =>
        split at b2
        · next a ho =>
            split at b2
            · next hc =>
                split at b2
                · next q hq =>
                    cases b2
                    exact x_w_ast hx hb hd hc.1 hc.2.2.1 ho (Or.inr (Or.inl ⟨rfl, rfl, hc.2.1, hq⟩)) (nx _ _ _ _ _ _ _ (List.mem_singleton.mpr rfl))
                · cases b2
            · cases b2
        · cases b2
    · cases b2
  case bastore =>
    obtain ⟨b1, b2⟩ := x_if_ok (show x_if (len == 1) (x_ast m pc L st cc ss fs h E 0 2) = some lst from hins)
    cases x_len b1
    unfold x_ast at b2
    split at b2
    · next v i9 b9 k9 r =>
        split at b2
        · next a ho =>
            split at b2
            · next hc =>
                split at b2
                · next q hq =>
                    cases b2
                    exact x_w_ast hx hb hd hc.1 hc.2.2.1 ho (Or.inr (Or.inr ⟨rfl, rfl, hc.2.1, hc.2.2.2 rfl, hq⟩)) (nx _ _ _ _ _ _ _ (List.mem_singleton.mpr rfl))
                · cases b2
            · cases b2
        · cases b2
    · cases b2
  case arraylength =>
    obtain ⟨b1, b2⟩ := x_if_ok (show x_if (len == 1) (x_alen m pc L st cc ss fs h E) = some lst from hins)
    cases x_len b1
    unfold x_alen at b2
    split at b2
    · next b9 k9 r =>
        split at b2
        · next a ho =>
            split at b2
            · next hc =>
                cases b2
                exact x_w_alen hx hb hd ho hc (nx _ _ _ _ _ _ _ (List.mem_singleton.mpr rfl))
            · cases b2
        · cases b2
    · next b9 k9 r =>
        split at b2
        · next hc =>
            cases b2
            exact x_w_slen hx hb hd (hscr hc) (nx _ _ _ _ _ _ _ (List.mem_singleton.mpr rfl))
        · cases b2
    · cases b2
  case newarray at9 =>
    obtain ⟨b1, b2⟩ := x_if_ok (show x_if (len == 2) (match (generalizing := false) at9 with | .int => x_newa P m pc L st cc ss fs h E 0 | .long => x_newa P m pc L st cc ss fs h E 1 | .boolean => x_newa P m pc L st cc ss fs h E 2 | _ => none) = some lst from hins)
    cases x_len b1
    have key : ∀ ty : Nat, (at9 = .int ∧ ty = 0 ∨ at9 = .long ∧ ty = 1 ∨ at9 = .boolean ∧ ty = 2) → x_newa P m pc L st cc ss fs h E ty = some lst → x_OKs p l e R s mid args below meth c Q D cl B0 sc (x_maxL P m) ρ0 ad0 pc L st cc ss h E := by
      intro ty hty b3
      unfold x_newa at b3
      split at b3
      · next n9 r =>
          split at b3
          · next hc =>
              cases b3
              exact x_w_newa hx hb hts hOK.2.2.2.1 hOK.2.2.2.2.1 hOK.2.2.2.2.2.1 hB hd hty hc.1 hc.2.1 (by omega) (by omega) (nx _ _ _ _ _ _ _ (List.mem_singleton.mpr rfl))
          · cases b3
      · cases b3
    cases at9 <;> first | exact key 0 (Or.inl ⟨rfl, rfl⟩) b2 | exact key 1 (Or.inr (Or.inl ⟨rfl, rfl⟩)) b2 | exact key 2 (Or.inr (Or.inr ⟨rfl, rfl⟩)) b2 | cases b2
  case new idx =>
    obtain ⟨b1, b2⟩ := x_if_ok (show x_if (len == 3) (x_new P m pc L st cc ss fs h E idx) = some lst from hins)
    cases x_len b1
    unfold x_new at b2
    split at b2
    · next ci z hp =>
        split at b2
        · next hc =>
            cases b2
            have hpool := hOK.2.2.1 m idx
            rw [hp] at hpool
            exact x_w_new hx hb hown hts hOK.2.1 hpool hB hd (by omega) (by omega) (nx _ _ _ _ _ _ _ (List.mem_singleton.mpr rfl))
        · cases b2
    · cases b2
  case invokevirtual idx =>
    obtain ⟨b1, b2⟩ := x_if_ok (show x_if (len == 3) (x_invV P m pc L st cc ss fs h E idx) = some lst from hins)
    cases x_len b1
    exact x_w_invV hOK hS hctx hd40 hscr hend hd b2 hall
  case invokespecial idx =>
    obtain ⟨b1, b2⟩ := x_if_ok (show x_if (len == 3) (x_invI P m pc L st cc ss fs h E idx) = some lst from hins)
    cases x_len b1
    exact x_w_invI hOK hS hctx hd40 hscr hend nx hd b2 hall
  case invokestatic idx =>
    obtain ⟨b1, b2⟩ := x_if_ok (show x_if (len == 3) (x_invS P m pc L st cc ss fs h E idx) = some lst from hins)
    cases x_len b1
    exact x_w_invS hOK hS hctx hd40 hscr hend nx hd b2 hall
  case ireturn => exact hend (k + 1) pc L st cc ss h E _ len (Nat.le_refl _) hcode (Or.inl rfl) hrun
  case lreturn => exact hend (k + 1) pc L st cc ss h E _ len (Nat.le_refl _) hcode (Or.inr (Or.inl rfl)) hrun
  case return_ => exact hend (k + 1) pc L st cc ss h E _ len (Nat.le_refl _) hcode (Or.inr (Or.inr rfl)) hrun
  all_goals exact absurd (show (none : Option (List xS)) = some lst from hins) (by simp)
end
