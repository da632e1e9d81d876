section
-- ===== PART A: goes FIRST, ahead of the names: the tables' words, and 'selects' of the private methods out of them =====
/-- a private method of a class that the tables say can be made, by its rows of tables_1 -/
def lw_okq (q : MethodName × Nat) : Prop := (q.1.cls ≠ "java/lang/invoke/MethodHandle" ∧ q.1.cls ≠ "java/lang/invoke/VarHandle") ∧ Cond.instantiable q.1.cls q.2 ∈ tables_1 ∧ Cond.privateMethod q.1 ∈ tables_1 ∧ Cond.instanceMethod q.1 ∈ tables_1
theorem lw_p0 : lw_okq (⟨"java/lang/Throwable", "fillInStackTrace", "(I)Ljava/lang/Throwable;"⟩, 6) := ⟨⟨by decide +kernel, by decide +kernel⟩, List.mem_of_getElem? (i := 339) (by decide +kernel), List.mem_of_getElem? (i := 337) (by decide +kernel), List.mem_of_getElem? (i := 338) (by decide +kernel)⟩
theorem lw_p1 : lw_okq (⟨"DotBook$RuleList", "takeOne", "(LDotBook$Typed;II)Z"⟩, 3) := ⟨⟨by decide +kernel, by decide +kernel⟩, List.mem_of_getElem? (i := 49) (by decide +kernel), List.mem_of_getElem? (i := 398) (by decide +kernel), List.mem_of_getElem? (i := 399) (by decide +kernel)⟩
theorem lw_p2 : lw_okq (⟨"DotBook$Rule", "readLetters", "(LDotBook$Typed;I)V"⟩, 5) := ⟨⟨by decide +kernel, by decide +kernel⟩, List.mem_of_getElem? (i := 56) (by decide +kernel), List.mem_of_getElem? (i := 490) (by decide +kernel), List.mem_of_getElem? (i := 491) (by decide +kernel)⟩
theorem lw_p3 : lw_okq (⟨"DotBook$Rule", "readCells", "(LDotBook$Typed;II)Z"⟩, 5) := ⟨⟨by decide +kernel, by decide +kernel⟩, List.mem_of_getElem? (i := 56) (by decide +kernel), List.mem_of_getElem? (i := 497) (by decide +kernel), List.mem_of_getElem? (i := 498) (by decide +kernel)⟩
theorem lw_p4 : lw_okq (⟨"DotBook$Rule", "putCell", "(I)Z"⟩, 5) := ⟨⟨by decide +kernel, by decide +kernel⟩, List.mem_of_getElem? (i := 56) (by decide +kernel), List.mem_of_getElem? (i := 501) (by decide +kernel), List.mem_of_getElem? (i := 502) (by decide +kernel)⟩
theorem lw_p5 : lw_okq (⟨"DotBook$RuleList", "hasLike", "(LDotBook$Rule;)Z"⟩, 3) := ⟨⟨by decide +kernel, by decide +kernel⟩, List.mem_of_getElem? (i := 49) (by decide +kernel), List.mem_of_getElem? (i := 505) (by decide +kernel), List.mem_of_getElem? (i := 506) (by decide +kernel)⟩
theorem lw_p6 : lw_okq (⟨"DotBook$Translator", "putSingle", "(LDotBook$Block;I)V"⟩, 5) := ⟨⟨by decide +kernel, by decide +kernel⟩, List.mem_of_getElem? (i := 103) (by decide +kernel), List.mem_of_getElem? (i := 550) (by decide +kernel), List.mem_of_getElem? (i := 551) (by decide +kernel)⟩
theorem lw_p7 : lw_okq (⟨"DotBook$Translator", "findWord", "(I)V"⟩, 5) := ⟨⟨by decide +kernel, by decide +kernel⟩, List.mem_of_getElem? (i := 103) (by decide +kernel), List.mem_of_getElem? (i := 572) (by decide +kernel), List.mem_of_getElem? (i := 573) (by decide +kernel)⟩
theorem lw_p8 : lw_okq (⟨"DotBook$Translator", "putWord", "(LDotBook$Block;)V"⟩, 5) := ⟨⟨by decide +kernel, by decide +kernel⟩, List.mem_of_getElem? (i := 103) (by decide +kernel), List.mem_of_getElem? (i := 577) (by decide +kernel), List.mem_of_getElem? (i := 578) (by decide +kernel)⟩
theorem lw_p9 : lw_okq (⟨"DotBook$Translator", "putLettersAt", "(LDotBook$Block;I)I"⟩, 5) := ⟨⟨by decide +kernel, by decide +kernel⟩, List.mem_of_getElem? (i := 103) (by decide +kernel), List.mem_of_getElem? (i := 581) (by decide +kernel), List.mem_of_getElem? (i := 582) (by decide +kernel)⟩
theorem lw_p10 : lw_okq (⟨"DotBook$Translator", "ruleAt", "(I)LDotBook$Rule;"⟩, 5) := ⟨⟨by decide +kernel, by decide +kernel⟩, List.mem_of_getElem? (i := 103) (by decide +kernel), List.mem_of_getElem? (i := 585) (by decide +kernel), List.mem_of_getElem? (i := 586) (by decide +kernel)⟩
theorem lw_p11 : lw_okq (⟨"DotBook$Block", "layPiece", "(III)V"⟩, 9) := ⟨⟨by decide +kernel, by decide +kernel⟩, List.mem_of_getElem? (i := 171) (by decide +kernel), List.mem_of_getElem? (i := 617) (by decide +kernel), List.mem_of_getElem? (i := 618) (by decide +kernel)⟩
theorem lw_p12 : lw_okq (⟨"DotBook$Block", "roomLeft", "(I)I"⟩, 9) := ⟨⟨by decide +kernel, by decide +kernel⟩, List.mem_of_getElem? (i := 171) (by decide +kernel), List.mem_of_getElem? (i := 621) (by decide +kernel), List.mem_of_getElem? (i := 622) (by decide +kernel)⟩
theorem lw_p13 : lw_okq (⟨"DotBook$Block", "indentOf", "(I)I"⟩, 9) := ⟨⟨by decide +kernel, by decide +kernel⟩, List.mem_of_getElem? (i := 171) (by decide +kernel), List.mem_of_getElem? (i := 625) (by decide +kernel), List.mem_of_getElem? (i := 626) (by decide +kernel)⟩
theorem lw_p14 : lw_okq (⟨"DotBook$Block", "lengthOf", "(I)I"⟩, 9) := ⟨⟨by decide +kernel, by decide +kernel⟩, List.mem_of_getElem? (i := 171) (by decide +kernel), List.mem_of_getElem? (i := 629) (by decide +kernel), List.mem_of_getElem? (i := 630) (by decide +kernel)⟩
theorem lw_p15 : lw_okq (⟨"DotBook$Block", "layCell", "(I)V"⟩, 9) := ⟨⟨by decide +kernel, by decide +kernel⟩, List.mem_of_getElem? (i := 171) (by decide +kernel), List.mem_of_getElem? (i := 633) (by decide +kernel), List.mem_of_getElem? (i := 634) (by decide +kernel)⟩
def lw_privs_1 : List (MethodName × Nat) := [(⟨"java/lang/Throwable", "fillInStackTrace", "(I)Ljava/lang/Throwable;"⟩, 6), (⟨"DotBook$RuleList", "takeOne", "(LDotBook$Typed;II)Z"⟩, 3), (⟨"DotBook$Rule", "readLetters", "(LDotBook$Typed;I)V"⟩, 5), (⟨"DotBook$Rule", "readCells", "(LDotBook$Typed;II)Z"⟩, 5), (⟨"DotBook$Rule", "putCell", "(I)Z"⟩, 5), (⟨"DotBook$RuleList", "hasLike", "(LDotBook$Rule;)Z"⟩, 3), (⟨"DotBook$Translator", "putSingle", "(LDotBook$Block;I)V"⟩, 5), (⟨"DotBook$Translator", "findWord", "(I)V"⟩, 5), (⟨"DotBook$Translator", "putWord", "(LDotBook$Block;)V"⟩, 5), (⟨"DotBook$Translator", "putLettersAt", "(LDotBook$Block;I)I"⟩, 5), (⟨"DotBook$Translator", "ruleAt", "(I)LDotBook$Rule;"⟩, 5), (⟨"DotBook$Block", "layPiece", "(III)V"⟩, 9), (⟨"DotBook$Block", "roomLeft", "(I)I"⟩, 9), (⟨"DotBook$Block", "indentOf", "(I)I"⟩, 9), (⟨"DotBook$Block", "lengthOf", "(I)I"⟩, 9), (⟨"DotBook$Block", "layCell", "(I)V"⟩, 9)]
theorem lw_r1 : ∀ q ∈ lw_privs_1, lw_okq q := List.forall_mem_cons.mpr ⟨lw_p0, List.forall_mem_cons.mpr ⟨lw_p1, List.forall_mem_cons.mpr ⟨lw_p2, List.forall_mem_cons.mpr ⟨lw_p3, List.forall_mem_cons.mpr ⟨lw_p4, List.forall_mem_cons.mpr ⟨lw_p5, List.forall_mem_cons.mpr ⟨lw_p6, List.forall_mem_cons.mpr ⟨lw_p7, List.forall_mem_cons.mpr ⟨lw_p8, List.forall_mem_cons.mpr ⟨lw_p9, List.forall_mem_cons.mpr ⟨lw_p10, List.forall_mem_cons.mpr ⟨lw_p11, List.forall_mem_cons.mpr ⟨lw_p12, List.forall_mem_cons.mpr ⟨lw_p13, List.forall_mem_cons.mpr ⟨lw_p14, List.forall_mem_cons.mpr ⟨lw_p15, fun _ h => absurd h List.not_mem_nil⟩⟩⟩⟩⟩⟩⟩⟩⟩⟩⟩⟩⟩⟩⟩⟩
theorem lw_p16 : lw_okq (⟨"DotBook$Block", "beginLine", "()V"⟩, 9) := ⟨⟨by decide +kernel, by decide +kernel⟩, List.mem_of_getElem? (i := 171) (by decide +kernel), List.mem_of_getElem? (i := 637) (by decide +kernel), List.mem_of_getElem? (i := 638) (by decide +kernel)⟩
theorem lw_p17 : lw_okq (⟨"DotBook$Book", "turnPage", "()V"⟩, 8) := ⟨⟨by decide +kernel, by decide +kernel⟩, List.mem_of_getElem? (i := 158) (by decide +kernel), List.mem_of_getElem? (i := 641) (by decide +kernel), List.mem_of_getElem? (i := 642) (by decide +kernel)⟩
theorem lw_p18 : lw_okq (⟨"DotBook$Book", "makeWayForHeading", "(I)V"⟩, 8) := ⟨⟨by decide +kernel, by decide +kernel⟩, List.mem_of_getElem? (i := 158) (by decide +kernel), List.mem_of_getElem? (i := 645) (by decide +kernel), List.mem_of_getElem? (i := 646) (by decide +kernel)⟩
theorem lw_p19 : lw_okq (⟨"DotBook$Reader", "put", "(C)V"⟩, 8) := ⟨⟨by decide +kernel, by decide +kernel⟩, List.mem_of_getElem? (i := 125) (by decide +kernel), List.mem_of_getElem? (i := 691) (by decide +kernel), List.mem_of_getElem? (i := 692) (by decide +kernel)⟩
theorem lw_p20 : lw_okq (⟨"DotBook$Reader", "readPiece", "(LDotBook$Block;I)V"⟩, 8) := ⟨⟨by decide +kernel, by decide +kernel⟩, List.mem_of_getElem? (i := 125) (by decide +kernel), List.mem_of_getElem? (i := 695) (by decide +kernel), List.mem_of_getElem? (i := 696) (by decide +kernel)⟩
theorem lw_p21 : lw_okq (⟨"DotBook$Reader", "readCellsAt", "(LDotBook$Block;I)I"⟩, 8) := ⟨⟨by decide +kernel, by decide +kernel⟩, List.mem_of_getElem? (i := 125) (by decide +kernel), List.mem_of_getElem? (i := 703) (by decide +kernel), List.mem_of_getElem? (i := 704) (by decide +kernel)⟩
theorem lw_p22 : lw_okq (⟨"DotBook$Reader", "passCapitalSigns", "(LDotBook$Block;I)I"⟩, 8) := ⟨⟨by decide +kernel, by decide +kernel⟩, List.mem_of_getElem? (i := 125) (by decide +kernel), List.mem_of_getElem? (i := 710) (by decide +kernel), List.mem_of_getElem? (i := 711) (by decide +kernel)⟩
theorem lw_p23 : lw_okq (⟨"DotBook$Reader", "ruleAt", "(LDotBook$Block;I)LDotBook$Rule;"⟩, 8) := ⟨⟨by decide +kernel, by decide +kernel⟩, List.mem_of_getElem? (i := 125) (by decide +kernel), List.mem_of_getElem? (i := 714) (by decide +kernel), List.mem_of_getElem? (i := 715) (by decide +kernel)⟩
theorem lw_p24 : lw_okq (⟨"DotBook$Reader", "putInCase", "(C)V"⟩, 8) := ⟨⟨by decide +kernel, by decide +kernel⟩, List.mem_of_getElem? (i := 125) (by decide +kernel), List.mem_of_getElem? (i := 750) (by decide +kernel), List.mem_of_getElem? (i := 751) (by decide +kernel)⟩
theorem lw_p25 : lw_okq (⟨"DotBookModel", "takeRule", "(II)Z"⟩, 29) := ⟨⟨by decide +kernel, by decide +kernel⟩, List.mem_of_getElem? (i := 785) (by decide +kernel), List.mem_of_getElem? (i := 895) (by decide +kernel), List.mem_of_getElem? (i := 896) (by decide +kernel)⟩
theorem lw_p26 : lw_okq (⟨"DotBookModel", "kindOf", "(C)I"⟩, 29) := ⟨⟨by decide +kernel, by decide +kernel⟩, List.mem_of_getElem? (i := 785) (by decide +kernel), List.mem_of_getElem? (i := 899) (by decide +kernel), List.mem_of_getElem? (i := 900) (by decide +kernel)⟩
theorem lw_p27 : lw_okq (⟨"DotBookModel", "isSmall", "(C)Z"⟩, 29) := ⟨⟨by decide +kernel, by decide +kernel⟩, List.mem_of_getElem? (i := 785) (by decide +kernel), List.mem_of_getElem? (i := 903) (by decide +kernel), List.mem_of_getElem? (i := 904) (by decide +kernel)⟩
theorem lw_p28 : lw_okq (⟨"DotBookModel", "readCells", "(II)Z"⟩, 29) := ⟨⟨by decide +kernel, by decide +kernel⟩, List.mem_of_getElem? (i := 785) (by decide +kernel), List.mem_of_getElem? (i := 907) (by decide +kernel), List.mem_of_getElem? (i := 908) (by decide +kernel)⟩
theorem lw_p29 : lw_okq (⟨"DotBookModel", "isThere", "()Z"⟩, 29) := ⟨⟨by decide +kernel, by decide +kernel⟩, List.mem_of_getElem? (i := 785) (by decide +kernel), List.mem_of_getElem? (i := 911) (by decide +kernel), List.mem_of_getElem? (i := 912) (by decide +kernel)⟩
theorem lw_p30 : lw_okq (⟨"DotBookModel", "isLetter", "(C)Z"⟩, 29) := ⟨⟨by decide +kernel, by decide +kernel⟩, List.mem_of_getElem? (i := 785) (by decide +kernel), List.mem_of_getElem? (i := 923) (by decide +kernel), List.mem_of_getElem? (i := 924) (by decide +kernel)⟩
theorem lw_p31 : lw_okq (⟨"DotBookModel", "isCapital", "(C)Z"⟩, 29) := ⟨⟨by decide +kernel, by decide +kernel⟩, List.mem_of_getElem? (i := 785) (by decide +kernel), List.mem_of_getElem? (i := 927) (by decide +kernel), List.mem_of_getElem? (i := 928) (by decide +kernel)⟩
def lw_privs_2 : List (MethodName × Nat) := [(⟨"DotBook$Block", "beginLine", "()V"⟩, 9), (⟨"DotBook$Book", "turnPage", "()V"⟩, 8), (⟨"DotBook$Book", "makeWayForHeading", "(I)V"⟩, 8), (⟨"DotBook$Reader", "put", "(C)V"⟩, 8), (⟨"DotBook$Reader", "readPiece", "(LDotBook$Block;I)V"⟩, 8), (⟨"DotBook$Reader", "readCellsAt", "(LDotBook$Block;I)I"⟩, 8), (⟨"DotBook$Reader", "passCapitalSigns", "(LDotBook$Block;I)I"⟩, 8), (⟨"DotBook$Reader", "ruleAt", "(LDotBook$Block;I)LDotBook$Rule;"⟩, 8), (⟨"DotBook$Reader", "putInCase", "(C)V"⟩, 8), (⟨"DotBookModel", "takeRule", "(II)Z"⟩, 29), (⟨"DotBookModel", "kindOf", "(C)I"⟩, 29), (⟨"DotBookModel", "isSmall", "(C)Z"⟩, 29), (⟨"DotBookModel", "readCells", "(II)Z"⟩, 29), (⟨"DotBookModel", "isThere", "()Z"⟩, 29), (⟨"DotBookModel", "isLetter", "(C)Z"⟩, 29), (⟨"DotBookModel", "isCapital", "(C)Z"⟩, 29)]
theorem lw_r2 : ∀ q ∈ lw_privs_2, lw_okq q := List.forall_mem_cons.mpr ⟨lw_p16, List.forall_mem_cons.mpr ⟨lw_p17, List.forall_mem_cons.mpr ⟨lw_p18, List.forall_mem_cons.mpr ⟨lw_p19, List.forall_mem_cons.mpr ⟨lw_p20, List.forall_mem_cons.mpr ⟨lw_p21, List.forall_mem_cons.mpr ⟨lw_p22, List.forall_mem_cons.mpr ⟨lw_p23, List.forall_mem_cons.mpr ⟨lw_p24, List.forall_mem_cons.mpr ⟨lw_p25, List.forall_mem_cons.mpr ⟨lw_p26, List.forall_mem_cons.mpr ⟨lw_p27, List.forall_mem_cons.mpr ⟨lw_p28, List.forall_mem_cons.mpr ⟨lw_p29, List.forall_mem_cons.mpr ⟨lw_p30, List.forall_mem_cons.mpr ⟨lw_p31, fun _ h => absurd h List.not_mem_nil⟩⟩⟩⟩⟩⟩⟩⟩⟩⟩⟩⟩⟩⟩⟩⟩
theorem lw_p32 : lw_okq (⟨"DotBookModel", "isDigit", "(C)Z"⟩, 29) := ⟨⟨by decide +kernel, by decide +kernel⟩, List.mem_of_getElem? (i := 785) (by decide +kernel), List.mem_of_getElem? (i := 931) (by decide +kernel), List.mem_of_getElem? (i := 932) (by decide +kernel)⟩
theorem lw_p33 : lw_okq (⟨"DotBookModel", "markOf", "(C)I"⟩, 29) := ⟨⟨by decide +kernel, by decide +kernel⟩, List.mem_of_getElem? (i := 785) (by decide +kernel), List.mem_of_getElem? (i := 935) (by decide +kernel), List.mem_of_getElem? (i := 936) (by decide +kernel)⟩
theorem lw_p34 : lw_okq (⟨"DotBookModel", "translate", "()V"⟩, 29) := ⟨⟨by decide +kernel, by decide +kernel⟩, List.mem_of_getElem? (i := 785) (by decide +kernel), List.mem_of_getElem? (i := 939) (by decide +kernel), List.mem_of_getElem? (i := 940) (by decide +kernel)⟩
theorem lw_p35 : lw_okq (⟨"DotBookModel", "translateWord", "(II)V"⟩, 29) := ⟨⟨by decide +kernel, by decide +kernel⟩, List.mem_of_getElem? (i := 785) (by decide +kernel), List.mem_of_getElem? (i := 943) (by decide +kernel), List.mem_of_getElem? (i := 944) (by decide +kernel)⟩
theorem lw_p36 : lw_okq (⟨"DotBookModel", "add", "(II)V"⟩, 29) := ⟨⟨by decide +kernel, by decide +kernel⟩, List.mem_of_getElem? (i := 785) (by decide +kernel), List.mem_of_getElem? (i := 947) (by decide +kernel), List.mem_of_getElem? (i := 948) (by decide +kernel)⟩
theorem lw_p37 : lw_okq (⟨"DotBookModel", "stands", "(IIIIZ)Z"⟩, 29) := ⟨⟨by decide +kernel, by decide +kernel⟩, List.mem_of_getElem? (i := 785) (by decide +kernel), List.mem_of_getElem? (i := 951) (by decide +kernel), List.mem_of_getElem? (i := 952) (by decide +kernel)⟩
theorem lw_p38 : lw_okq (⟨"DotBookModel", "applies", "(IIIII)Z"⟩, 29) := ⟨⟨by decide +kernel, by decide +kernel⟩, List.mem_of_getElem? (i := 785) (by decide +kernel), List.mem_of_getElem? (i := 955) (by decide +kernel), List.mem_of_getElem? (i := 956) (by decide +kernel)⟩
theorem lw_p39 : lw_okq (⟨"DotBookModel", "small", "(C)C"⟩, 29) := ⟨⟨by decide +kernel, by decide +kernel⟩, List.mem_of_getElem? (i := 785) (by decide +kernel), List.mem_of_getElem? (i := 959) (by decide +kernel), List.mem_of_getElem? (i := 960) (by decide +kernel)⟩
theorem lw_p40 : lw_okq (⟨"DotBookModel", "cellOf", "(C)I"⟩, 29) := ⟨⟨by decide +kernel, by decide +kernel⟩, List.mem_of_getElem? (i := 785) (by decide +kernel), List.mem_of_getElem? (i := 963) (by decide +kernel), List.mem_of_getElem? (i := 964) (by decide +kernel)⟩
theorem lw_p41 : lw_okq (⟨"DotBookModel", "digitCell", "(I)I"⟩, 29) := ⟨⟨by decide +kernel, by decide +kernel⟩, List.mem_of_getElem? (i := 785) (by decide +kernel), List.mem_of_getElem? (i := 967) (by decide +kernel), List.mem_of_getElem? (i := 968) (by decide +kernel)⟩
theorem lw_p42 : lw_okq (⟨"DotBookModel", "noBlock", "(I)Z"⟩, 29) := ⟨⟨by decide +kernel, by decide +kernel⟩, List.mem_of_getElem? (i := 785) (by decide +kernel), List.mem_of_getElem? (i := 975) (by decide +kernel), List.mem_of_getElem? (i := 976) (by decide +kernel)⟩
theorem lw_p43 : lw_okq (⟨"DotBookModel", "hear", "(C)V"⟩, 29) := ⟨⟨by decide +kernel, by decide +kernel⟩, List.mem_of_getElem? (i := 785) (by decide +kernel), List.mem_of_getElem? (i := 987) (by decide +kernel), List.mem_of_getElem? (i := 988) (by decide +kernel)⟩
theorem lw_p44 : lw_okq (⟨"DotBookModel", "readPiece", "(II)V"⟩, 29) := ⟨⟨by decide +kernel, by decide +kernel⟩, List.mem_of_getElem? (i := 785) (by decide +kernel), List.mem_of_getElem? (i := 991) (by decide +kernel), List.mem_of_getElem? (i := 992) (by decide +kernel)⟩
theorem lw_p45 : lw_okq (⟨"DotBookModel", "digitOf", "(I)I"⟩, 29) := ⟨⟨by decide +kernel, by decide +kernel⟩, List.mem_of_getElem? (i := 785) (by decide +kernel), List.mem_of_getElem? (i := 995) (by decide +kernel), List.mem_of_getElem? (i := 996) (by decide +kernel)⟩
theorem lw_p46 : lw_okq (⟨"DotBookModel", "readOne", "(III)I"⟩, 29) := ⟨⟨by decide +kernel, by decide +kernel⟩, List.mem_of_getElem? (i := 785) (by decide +kernel), List.mem_of_getElem? (i := 999) (by decide +kernel), List.mem_of_getElem? (i := 1000) (by decide +kernel)⟩
theorem lw_p47 : lw_okq (⟨"DotBookModel", "cellsStand", "(IIII)Z"⟩, 29) := ⟨⟨by decide +kernel, by decide +kernel⟩, List.mem_of_getElem? (i := 785) (by decide +kernel), List.mem_of_getElem? (i := 1003) (by decide +kernel), List.mem_of_getElem? (i := 1004) (by decide +kernel)⟩
def lw_privs_3 : List (MethodName × Nat) := [(⟨"DotBookModel", "isDigit", "(C)Z"⟩, 29), (⟨"DotBookModel", "markOf", "(C)I"⟩, 29), (⟨"DotBookModel", "translate", "()V"⟩, 29), (⟨"DotBookModel", "translateWord", "(II)V"⟩, 29), (⟨"DotBookModel", "add", "(II)V"⟩, 29), (⟨"DotBookModel", "stands", "(IIIIZ)Z"⟩, 29), (⟨"DotBookModel", "applies", "(IIIII)Z"⟩, 29), (⟨"DotBookModel", "small", "(C)C"⟩, 29), (⟨"DotBookModel", "cellOf", "(C)I"⟩, 29), (⟨"DotBookModel", "digitCell", "(I)I"⟩, 29), (⟨"DotBookModel", "noBlock", "(I)Z"⟩, 29), (⟨"DotBookModel", "hear", "(C)V"⟩, 29), (⟨"DotBookModel", "readPiece", "(II)V"⟩, 29), (⟨"DotBookModel", "digitOf", "(I)I"⟩, 29), (⟨"DotBookModel", "readOne", "(III)I"⟩, 29), (⟨"DotBookModel", "cellsStand", "(IIII)Z"⟩, 29)]
theorem lw_r3 : ∀ q ∈ lw_privs_3, lw_okq q := List.forall_mem_cons.mpr ⟨lw_p32, List.forall_mem_cons.mpr ⟨lw_p33, List.forall_mem_cons.mpr ⟨lw_p34, List.forall_mem_cons.mpr ⟨lw_p35, List.forall_mem_cons.mpr ⟨lw_p36, List.forall_mem_cons.mpr ⟨lw_p37, List.forall_mem_cons.mpr ⟨lw_p38, List.forall_mem_cons.mpr ⟨lw_p39, List.forall_mem_cons.mpr ⟨lw_p40, List.forall_mem_cons.mpr ⟨lw_p41, List.forall_mem_cons.mpr ⟨lw_p42, List.forall_mem_cons.mpr ⟨lw_p43, List.forall_mem_cons.mpr ⟨lw_p44, List.forall_mem_cons.mpr ⟨lw_p45, List.forall_mem_cons.mpr ⟨lw_p46, List.forall_mem_cons.mpr ⟨lw_p47, fun _ h => absurd h List.not_mem_nil⟩⟩⟩⟩⟩⟩⟩⟩⟩⟩⟩⟩⟩⟩⟩⟩
theorem lw_p48 : lw_okq (⟨"DotBookModel", "characterOf", "(I)C"⟩, 29) := ⟨⟨by decide +kernel, by decide +kernel⟩, List.mem_of_getElem? (i := 785) (by decide +kernel), List.mem_of_getElem? (i := 1007) (by decide +kernel), List.mem_of_getElem? (i := 1008) (by decide +kernel)⟩
theorem lw_p49 : lw_okq (⟨"DotBookModel", "layOut", "(II)V"⟩, 29) := ⟨⟨by decide +kernel, by decide +kernel⟩, List.mem_of_getElem? (i := 785) (by decide +kernel), List.mem_of_getElem? (i := 1019) (by decide +kernel), List.mem_of_getElem? (i := 1020) (by decide +kernel)⟩
theorem lw_p50 : lw_okq (⟨"DotBookModel", "lay", "(IZ)I"⟩, 29) := ⟨⟨by decide +kernel, by decide +kernel⟩, List.mem_of_getElem? (i := 785) (by decide +kernel), List.mem_of_getElem? (i := 1023) (by decide +kernel), List.mem_of_getElem? (i := 1024) (by decide +kernel)⟩
theorem lw_p51 : lw_okq (⟨"DotBookModel", "indentOf", "(II)I"⟩, 29) := ⟨⟨by decide +kernel, by decide +kernel⟩, List.mem_of_getElem? (i := 785) (by decide +kernel), List.mem_of_getElem? (i := 1027) (by decide +kernel), List.mem_of_getElem? (i := 1028) (by decide +kernel)⟩
theorem lw_p52 : lw_okq (⟨"DotBookModel", "closeLine", "(IIZ)V"⟩, 29) := ⟨⟨by decide +kernel, by decide +kernel⟩, List.mem_of_getElem? (i := 785) (by decide +kernel), List.mem_of_getElem? (i := 1031) (by decide +kernel), List.mem_of_getElem? (i := 1032) (by decide +kernel)⟩
theorem lw_p53 : lw_okq (⟨"DotBookModel", "putLine", "(II)V"⟩, 29) := ⟨⟨by decide +kernel, by decide +kernel⟩, List.mem_of_getElem? (i := 785) (by decide +kernel), List.mem_of_getElem? (i := 1035) (by decide +kernel), List.mem_of_getElem? (i := 1036) (by decide +kernel)⟩
theorem lw_p54 : lw_okq (⟨"DotBookModel", "number", "(I)V"⟩, 29) := ⟨⟨by decide +kernel, by decide +kernel⟩, List.mem_of_getElem? (i := 785) (by decide +kernel), List.mem_of_getElem? (i := 1043) (by decide +kernel), List.mem_of_getElem? (i := 1044) (by decide +kernel)⟩
def lw_privs_4 : List (MethodName × Nat) := [(⟨"DotBookModel", "characterOf", "(I)C"⟩, 29), (⟨"DotBookModel", "layOut", "(II)V"⟩, 29), (⟨"DotBookModel", "lay", "(IZ)I"⟩, 29), (⟨"DotBookModel", "indentOf", "(II)I"⟩, 29), (⟨"DotBookModel", "closeLine", "(IIZ)V"⟩, 29), (⟨"DotBookModel", "putLine", "(II)V"⟩, 29), (⟨"DotBookModel", "number", "(I)V"⟩, 29)]
theorem lw_r4 : ∀ q ∈ lw_privs_4, lw_okq q := List.forall_mem_cons.mpr ⟨lw_p48, List.forall_mem_cons.mpr ⟨lw_p49, List.forall_mem_cons.mpr ⟨lw_p50, List.forall_mem_cons.mpr ⟨lw_p51, List.forall_mem_cons.mpr ⟨lw_p52, List.forall_mem_cons.mpr ⟨lw_p53, List.forall_mem_cons.mpr ⟨lw_p54, fun _ h => absurd h List.not_mem_nil⟩⟩⟩⟩⟩⟩⟩
def lw_privs : List (MethodName × Nat) := lw_privs_1 ++ (lw_privs_2 ++ (lw_privs_3 ++ (lw_privs_4)))
def lw_tbl : List Cond := k2_sels lw_privs ++ tables_1
theorem lw_privs_ok : ∀ q ∈ lw_privs, lw_okq q := by
  show ∀ q ∈ lw_privs_1 ++ (lw_privs_2 ++ (lw_privs_3 ++ (lw_privs_4))), lw_okq q
  exact List.forall_mem_append.mpr ⟨lw_r1, List.forall_mem_append.mpr ⟨lw_r2, List.forall_mem_append.mpr ⟨lw_r3, lw_r4⟩⟩⟩
-- ===== end of PART A; then your names; then what follows =====
end
section
def R_Typed : String := "DotBook$Typed"
def R_RuleList : String := "DotBook$RuleList"
def R_Rule : String := "DotBook$Rule"
def R_Translator : String := "DotBook$Translator"
def R_Reader : String := "DotBook$Reader"
def R_Book : String := "DotBook$Book"
def R_Block : String := "DotBook$Block"
def R_DotBook : String := "DotBook"
def R_Model : String := "DotBookModel"
def R_Code : String := "DotBook$Code"
def R_Law : String := "DotBookLaw"
def T_Typed : u_T := fun k => match k with
  | 0 => ("DotBook$Typed", "row", "[C", true)
  | _ => ("DotBook$Typed", "count", "I", false)
def ty_Typed : Nat → FieldType := fun k => match k with
  | 0 => .array .char
  | _ => .int
theorem nm_Typed : ∀ a, a < 2 → ∀ b, b < 2 → a ≠ b → (T_Typed a).2.1 ≠ (T_Typed b).2.1 := by decide +kernel
theorem tk_Typed : ∀ k, k < 2 → parseFieldDescriptor (T_Typed k).2.2.1 = some (ty_Typed k) := by decide +kernel
def T_RuleList : u_T := fun k => match k with
  | 0 => ("DotBook$RuleList", "row", "[LDotBook$Rule;", true)
  | 1 => ("DotBook$RuleList", "count", "I", false)
  | _ => ("DotBook$RuleList", "firstWrong", "I", false)
def ty_RuleList : Nat → FieldType := fun k => match k with
  | 0 => .array (.object "DotBook$Rule")
  | 1 => .int
  | _ => .int
theorem nm_RuleList : ∀ a, a < 3 → ∀ b, b < 3 → a ≠ b → (T_RuleList a).2.1 ≠ (T_RuleList b).2.1 := by decide +kernel
theorem tk_RuleList : ∀ k, k < 3 → parseFieldDescriptor (T_RuleList k).2.2.1 = some (ty_RuleList k) := by decide +kernel
def T_Rule : u_T := fun k => match k with
  | 0 => ("DotBook$Rule", "kind", "I", false)
  | 1 => ("DotBook$Rule", "letters", "[C", true)
  | 2 => ("DotBook$Rule", "letterCount", "I", false)
  | 3 => ("DotBook$Rule", "cells", "[I", true)
  | _ => ("DotBook$Rule", "cellCount", "I", false)
def ty_Rule : Nat → FieldType := fun k => match k with
  | 0 => .int
  | 1 => .array .char
  | 2 => .int
  | 3 => .array .int
  | _ => .int
theorem nm_Rule : ∀ a, a < 5 → ∀ b, b < 5 → a ≠ b → (T_Rule a).2.1 ≠ (T_Rule b).2.1 := by decide +kernel
theorem tk_Rule : ∀ k, k < 5 → parseFieldDescriptor (T_Rule k).2.2.1 = some (ty_Rule k) := by decide +kernel
def T_Translator : u_T := fun k => match k with
  | 0 => ("DotBook$Translator", "text", "LDotBook$Typed;", true)
  | 1 => ("DotBook$Translator", "known", "LDotBook$RuleList;", true)
  | 2 => ("DotBook$Translator", "wordBegin", "I", false)
  | 3 => ("DotBook$Translator", "wordEnd", "I", false)
  | _ => ("DotBook$Translator", "wordIsCapital", "Z", false)
def ty_Translator : Nat → FieldType := fun k => match k with
  | 0 => .object "DotBook$Typed"
  | 1 => .object "DotBook$RuleList"
  | 2 => .int
  | 3 => .int
  | _ => .boolean
theorem nm_Translator : ∀ a, a < 5 → ∀ b, b < 5 → a ≠ b → (T_Translator a).2.1 ≠ (T_Translator b).2.1 := by decide +kernel
theorem tk_Translator : ∀ k, k < 5 → parseFieldDescriptor (T_Translator k).2.2.1 = some (ty_Translator k) := by decide +kernel
def T_Reader : u_T := fun k => match k with
  | 0 => ("DotBook$Reader", "known", "LDotBook$RuleList;", true)
  | 1 => ("DotBook$Reader", "row", "[C", true)
  | 2 => ("DotBook$Reader", "count", "I", false)
  | 3 => ("DotBook$Reader", "pieceBegin", "I", false)
  | 4 => ("DotBook$Reader", "pieceEnd", "I", false)
  | 5 => ("DotBook$Reader", "inNumber", "Z", false)
  | 6 => ("DotBook$Reader", "nextIsCapital", "Z", false)
  | _ => ("DotBook$Reader", "restIsCapital", "Z", false)
def ty_Reader : Nat → FieldType := fun k => match k with
  | 0 => .object "DotBook$RuleList"
  | 1 => .array .char
  | 2 => .int
  | 3 => .int
  | 4 => .int
  | 5 => .boolean
  | 6 => .boolean
  | _ => .boolean
theorem nm_Reader : ∀ a, a < 8 → ∀ b, b < 8 → a ≠ b → (T_Reader a).2.1 ≠ (T_Reader b).2.1 := by decide +kernel
theorem tk_Reader : ∀ k, k < 8 → parseFieldDescriptor (T_Reader k).2.2.1 = some (ty_Reader k) := by decide +kernel
def T_Book : u_T := fun k => match k with
  | 0 => ("DotBook$Book", "width", "I", true)
  | 1 => ("DotBook$Book", "height", "I", true)
  | 2 => ("DotBook$Book", "textLines", "I", true)
  | 3 => ("DotBook$Book", "blocks", "[LDotBook$Block;", true)
  | 4 => ("DotBook$Book", "count", "I", false)
  | 5 => ("DotBook$Book", "page", "I", false)
  | 6 => ("DotBook$Book", "usedLines", "I", false)
  | _ => ("DotBook$Book", "lastPage", "I", false)
def ty_Book : Nat → FieldType := fun k => match k with
  | 0 => .int
  | 1 => .int
  | 2 => .int
  | 3 => .array (.object "DotBook$Block")
  | 4 => .int
  | 5 => .int
  | 6 => .int
  | _ => .int
theorem nm_Book : ∀ a, a < 8 → ∀ b, b < 8 → a ≠ b → (T_Book a).2.1 ≠ (T_Book b).2.1 := by decide +kernel
theorem tk_Book : ∀ k, k < 8 → parseFieldDescriptor (T_Book k).2.2.1 = some (ty_Book k) := by decide +kernel
def T_Block : u_T := fun k => match k with
  | 0 => ("DotBook$Block", "kind", "I", false)
  | 1 => ("DotBook$Block", "cells", "[I", true)
  | 2 => ("DotBook$Block", "count", "I", false)
  | 3 => ("DotBook$Block", "laid", "[I", true)
  | 4 => ("DotBook$Block", "laidCount", "I", false)
  | 5 => ("DotBook$Block", "lineBegins", "[I", true)
  | 6 => ("DotBook$Block", "lineCount", "I", false)
  | 7 => ("DotBook$Block", "page", "I", false)
  | _ => ("DotBook$Block", "line", "I", false)
def ty_Block : Nat → FieldType := fun k => match k with
  | 0 => .int
  | 1 => .array .int
  | 2 => .int
  | 3 => .array .int
  | 4 => .int
  | 5 => .array .int
  | 6 => .int
  | 7 => .int
  | _ => .int
theorem nm_Block : ∀ a, a < 9 → ∀ b, b < 9 → a ≠ b → (T_Block a).2.1 ≠ (T_Block b).2.1 := by decide +kernel
theorem tk_Block : ∀ k, k < 9 → parseFieldDescriptor (T_Block k).2.2.1 = some (ty_Block k) := by decide +kernel
def T_DotBook : u_T := fun k => match k with
  | 0 => ("DotBook", "typed", "LDotBook$Typed;", true)
  | 1 => ("DotBook", "ruleList", "LDotBook$RuleList;", true)
  | 2 => ("DotBook", "translator", "LDotBook$Translator;", true)
  | 3 => ("DotBook", "reader", "LDotBook$Reader;", true)
  | _ => ("DotBook", "book", "LDotBook$Book;", true)
def ty_DotBook : Nat → FieldType := fun k => match k with
  | 0 => .object "DotBook$Typed"
  | 1 => .object "DotBook$RuleList"
  | 2 => .object "DotBook$Translator"
  | 3 => .object "DotBook$Reader"
  | _ => .object "DotBook$Book"
theorem nm_DotBook : ∀ a, a < 5 → ∀ b, b < 5 → a ≠ b → (T_DotBook a).2.1 ≠ (T_DotBook b).2.1 := by decide +kernel
theorem tk_DotBook : ∀ k, k < 5 → parseFieldDescriptor (T_DotBook k).2.2.1 = some (ty_DotBook k) := by decide +kernel
def T_Model : u_T := fun k => match k with
  | 0 => ("DotBookModel", "thrown", "I", false)
  | 1 => ("DotBookModel", "width", "I", false)
  | 2 => ("DotBookModel", "height", "I", false)
  | 3 => ("DotBookModel", "typedLength", "I", false)
  | 4 => ("DotBookModel", "typed", "[C", false)
  | 5 => ("DotBookModel", "count", "I", false)
  | 6 => ("DotBookModel", "kinds", "[I", false)
  | 7 => ("DotBookModel", "letterCount", "[I", false)
  | 8 => ("DotBookModel", "letters", "[C", false)
  | 9 => ("DotBookModel", "cellCount", "[I", false)
  | 10 => ("DotBookModel", "ruleCells", "[I", false)
  | 11 => ("DotBookModel", "wrong", "I", false)
  | 12 => ("DotBookModel", "blocks", "I", false)
  | 13 => ("DotBookModel", "blockKind", "[I", false)
  | 14 => ("DotBookModel", "sizes", "[I", false)
  | 15 => ("DotBookModel", "cells", "[I", false)
  | 16 => ("DotBookModel", "origins", "[I", false)
  | 17 => ("DotBookModel", "heardLength", "I", false)
  | 18 => ("DotBookModel", "heard", "[C", false)
  | 19 => ("DotBookModel", "rowLength", "I", false)
  | 20 => ("DotBookModel", "row", "[I", false)
  | 21 => ("DotBookModel", "page", "I", false)
  | 22 => ("DotBookModel", "line", "I", false)
  | 23 => ("DotBookModel", "last", "I", false)
  | 24 => ("DotBookModel", "wantedPage", "I", false)
  | 25 => ("DotBookModel", "wantedLine", "I", false)
  | 26 => ("DotBookModel", "wanted", "[I", false)
  | 27 => ("DotBookModel", "places", "[I", false)
  | _ => ("DotBookModel", "tall", "I", false)
def ty_Model : Nat → FieldType := fun k => match k with
  | 0 => .int
  | 1 => .int
  | 2 => .int
  | 3 => .int
  | 4 => .array .char
  | 5 => .int
  | 6 => .array .int
  | 7 => .array .int
  | 8 => .array .char
  | 9 => .array .int
  | 10 => .array .int
  | 11 => .int
  | 12 => .int
  | 13 => .array .int
  | 14 => .array .int
  | 15 => .array .int
  | 16 => .array .int
  | 17 => .int
  | 18 => .array .char
  | 19 => .int
  | 20 => .array .int
  | 21 => .int
  | 22 => .int
  | 23 => .int
  | 24 => .int
  | 25 => .int
  | 26 => .array .int
  | 27 => .array .int
  | _ => .int
theorem nm_Model : ∀ a, a < 29 → ∀ b, b < 29 → a ≠ b → (T_Model a).2.1 ≠ (T_Model b).2.1 := by decide +kernel
theorem tk_Model : ∀ k, k < 29 → parseFieldDescriptor (T_Model k).2.2.1 = some (ty_Model k) := by decide +kernel
def vwCl : List vw_C := [(R_Typed, T_Typed, 2), (R_RuleList, T_RuleList, 3), (R_Rule, T_Rule, 5), (R_Translator, T_Translator, 5), (R_Reader, T_Reader, 8), (R_Book, T_Book, 8), (R_Block, T_Block, 9), (R_DotBook, T_DotBook, 5), (R_Model, T_Model, 29)]
/-- which fields of a class are references -/
def dz_fty (ci : Nat) : List Bool := match ci with
  | 0 => [true, false]
  | 1 => [true, false, false]
  | 2 => [false, true, false, true, false]
  | 3 => [true, true, false, false, false]
  | 4 => [true, true, false, false, false, false, false, false]
  | 5 => [false, false, false, true, false, false, false, false]
  | 6 => [false, true, false, true, false, true, false, false, false]
  | 7 => [true, true, true, true, true]
  | _ => [false, false, false, false, true, false, true, true, true, true, true, false, false, true, true, true, true, false, true, false, true, false, false, false, false, false, true, true, false]
def dz_ft (ci : Nat) : Nat → FieldType := match ci with
  | 0 => ty_Typed
  | 1 => ty_RuleList
  | 2 => ty_Rule
  | 3 => ty_Translator
  | 4 => ty_Reader
  | 5 => ty_Book
  | 6 => ty_Block
  | 7 => ty_DotBook
  | _ => ty_Model
def dz_tys (Dt : Nat → ClassId) : List (ClassId × FieldType) := [(Dt 0, .int), (Dt 1, .char), (Dt 2, .long), (Dt 3, .object "DotBook$Rule"), (Dt 4, .object "DotBook$Block")]
/-- the words that any call may carry along -/
def dz_GW : List Cond := lw_tbl.filter goodWord
theorem dz_good (w : Cond) (h : w ∈ dz_GW) : (w.onTables && w.keeps) = true ∨ ∃ ty, w = .arrayClass ty := good_of_word (List.mem_filter.mp h).2
theorem dz_g0 {w : Cond} (h : w ∈ tables_1) (hg : goodWord w = true) : w ∈ dz_GW := List.mem_filter.mpr ⟨List.mem_append_right _ h, hg⟩
theorem dz_g1 {w : Cond} (i : Nat) (h : tables_1_1[i]? = some w) (hg : goodWord w = true) : w ∈ dz_GW := dz_g0 (List.mem_append_left _ (List.mem_of_getElem? h)) hg
theorem dz_g2 {w : Cond} (i : Nat) (h : tables_1_2[i]? = some w) (hg : goodWord w = true) : w ∈ dz_GW := dz_g0 (List.mem_append_right _ (List.mem_append_left _ (List.mem_of_getElem? h))) hg
theorem dz_g3 {w : Cond} (i : Nat) (h : tables_1_3[i]? = some w) (hg : goodWord w = true) : w ∈ dz_GW := dz_g0 (List.mem_append_right _ (List.mem_append_right _ (List.mem_append_left _ (List.mem_of_getElem? h)))) hg
theorem dz_g4 {w : Cond} (i : Nat) (h : tables_1_4[i]? = some w) (hg : goodWord w = true) : w ∈ dz_GW := dz_g0 (List.mem_append_right _ (List.mem_append_right _ (List.mem_append_right _ (List.mem_append_left _ (List.mem_of_getElem? h))))) hg
theorem dz_g5 {w : Cond} (i : Nat) (h : tables_1_5[i]? = some w) (hg : goodWord w = true) : w ∈ dz_GW := dz_g0 (List.mem_append_right _ (List.mem_append_right _ (List.mem_append_right _ (List.mem_append_right _ (List.mem_of_getElem? h))))) hg
theorem dz_gs {y : MethodName} (i n : Nat) (h : lw_privs[i]? = some (y, n)) (hg : goodWord (Cond.selects y.cls y y) = true) : Cond.selects y.cls y y ∈ dz_GW := List.mem_filter.mpr ⟨List.mem_append_left _ (List.mem_map.mpr ⟨(y, n), List.mem_of_getElem? h, rfl⟩), hg⟩
/-- words on a nest mate's private members -/
def dz_ns (w : Cond) : Bool := match w with
  | .fieldLinkNest .. => true
  | .methodLinkNest .. => true
  | .declares _ => true
  | .castable .. => true
  | _ => false
def dz_NW : List Cond := tables_1.filter dz_ns
theorem dz_n1 {w : Cond} (i : Nat) (h : tables_1_1[i]? = some w) (hg : dz_ns w = true) : w ∈ dz_NW := List.mem_filter.mpr ⟨List.mem_append_left _ (List.mem_of_getElem? h), hg⟩
theorem dz_n2 {w : Cond} (i : Nat) (h : tables_1_2[i]? = some w) (hg : dz_ns w = true) : w ∈ dz_NW := List.mem_filter.mpr ⟨List.mem_append_right _ (List.mem_append_left _ (List.mem_of_getElem? h)), hg⟩
theorem dz_n3 {w : Cond} (i : Nat) (h : tables_1_3[i]? = some w) (hg : dz_ns w = true) : w ∈ dz_NW := List.mem_filter.mpr ⟨List.mem_append_right _ (List.mem_append_right _ (List.mem_append_left _ (List.mem_of_getElem? h))), hg⟩
theorem dz_n4 {w : Cond} (i : Nat) (h : tables_1_4[i]? = some w) (hg : dz_ns w = true) : w ∈ dz_NW := List.mem_filter.mpr ⟨List.mem_append_right _ (List.mem_append_right _ (List.mem_append_right _ (List.mem_append_left _ (List.mem_of_getElem? h)))), hg⟩
theorem dz_n5 {w : Cond} (i : Nat) (h : tables_1_5[i]? = some w) (hg : dz_ns w = true) : w ∈ dz_NW := List.mem_filter.mpr ⟨List.mem_append_right _ (List.mem_append_right _ (List.mem_append_right _ (List.mem_append_right _ (List.mem_of_getElem? h)))), hg⟩
theorem dz_uw_Typed : ∀ w ∈ u_ws R_Typed T_Typed 2, w ∈ dz_GW := by
  intro w hw
  obtain ⟨k, hk, rfl⟩ := List.mem_map.mp hw
  have hk := List.mem_range.mp hk
  match k, hk with
  | 0, _ => exact (dz_g1 42 rfl rfl)
  | 1, _ => exact (dz_g1 44 rfl rfl)
  | (k + 2), h => omega
theorem dz_uw_RuleList : ∀ w ∈ u_ws R_RuleList T_RuleList 3, w ∈ dz_GW := by
  intro w hw
  obtain ⟨k, hk, rfl⟩ := List.mem_map.mp hw
  have hk := List.mem_range.mp hk
  match k, hk with
  | 0, _ => exact (dz_g1 95 rfl rfl)
  | 1, _ => exact (dz_g1 97 rfl rfl)
  | 2, _ => exact (dz_g1 99 rfl rfl)
  | (k + 3), h => omega
theorem dz_uw_Rule : ∀ w ∈ u_ws R_Rule T_Rule 5, w ∈ dz_GW := by
  intro w hw
  obtain ⟨k, hk, rfl⟩ := List.mem_map.mp hw
  have hk := List.mem_range.mp hk
  match k, hk with
  | 0, _ => exact (dz_g1 74 rfl rfl)
  | 1, _ => exact (dz_g1 76 rfl rfl)
  | 2, _ => exact (dz_g1 78 rfl rfl)
  | 3, _ => exact (dz_g1 80 rfl rfl)
  | 4, _ => exact (dz_g1 82 rfl rfl)
  | (k + 5), h => omega
theorem dz_uw_Translator : ∀ w ∈ u_ws R_Translator T_Translator 5, w ∈ dz_GW := by
  intro w hw
  obtain ⟨k, hk, rfl⟩ := List.mem_map.mp hw
  have hk := List.mem_range.mp hk
  match k, hk with
  | 0, _ => exact (dz_g1 113 rfl rfl)
  | 1, _ => exact (dz_g1 115 rfl rfl)
  | 2, _ => exact (dz_g1 117 rfl rfl)
  | 3, _ => exact (dz_g1 119 rfl rfl)
  | 4, _ => exact (dz_g1 121 rfl rfl)
  | (k + 5), h => omega
theorem dz_uw_Reader : ∀ w ∈ u_ws R_Reader T_Reader 8, w ∈ dz_GW := by
  intro w hw
  obtain ⟨k, hk, rfl⟩ := List.mem_map.mp hw
  have hk := List.mem_range.mp hk
  match k, hk with
  | 0, _ => exact (dz_g1 140 rfl rfl)
  | 1, _ => exact (dz_g1 142 rfl rfl)
  | 2, _ => exact (dz_g1 144 rfl rfl)
  | 3, _ => exact (dz_g1 146 rfl rfl)
  | 4, _ => exact (dz_g1 148 rfl rfl)
  | 5, _ => exact (dz_g1 150 rfl rfl)
  | 6, _ => exact (dz_g1 152 rfl rfl)
  | 7, _ => exact (dz_g1 154 rfl rfl)
  | (k + 8), h => omega
theorem dz_uw_Book : ∀ w ∈ u_ws R_Book T_Book 8, w ∈ dz_GW := by
  intro w hw
  obtain ⟨k, hk, rfl⟩ := List.mem_map.mp hw
  have hk := List.mem_range.mp hk
  match k, hk with
  | 0, _ => exact (dz_g1 227 rfl rfl)
  | 1, _ => exact (dz_g1 229 rfl rfl)
  | 2, _ => exact (dz_g1 231 rfl rfl)
  | 3, _ => exact (dz_g1 233 rfl rfl)
  | 4, _ => exact (dz_g1 235 rfl rfl)
  | 5, _ => exact (dz_g1 237 rfl rfl)
  | 6, _ => exact (dz_g1 239 rfl rfl)
  | 7, _ => exact (dz_g2 1 rfl rfl)
  | (k + 8), h => omega
theorem dz_uw_Block : ∀ w ∈ u_ws R_Block T_Block 9, w ∈ dz_GW := by
  intro w hw
  obtain ⟨k, hk, rfl⟩ := List.mem_map.mp hw
  have hk := List.mem_range.mp hk
  match k, hk with
  | 0, _ => exact (dz_g1 194 rfl rfl)
  | 1, _ => exact (dz_g1 196 rfl rfl)
  | 2, _ => exact (dz_g1 198 rfl rfl)
  | 3, _ => exact (dz_g1 200 rfl rfl)
  | 4, _ => exact (dz_g1 202 rfl rfl)
  | 5, _ => exact (dz_g1 204 rfl rfl)
  | 6, _ => exact (dz_g1 206 rfl rfl)
  | 7, _ => exact (dz_g1 208 rfl rfl)
  | 8, _ => exact (dz_g1 210 rfl rfl)
  | (k + 9), h => omega
theorem dz_uw_DotBook : ∀ w ∈ u_ws R_DotBook T_DotBook 5, w ∈ dz_GW := by
  intro w hw
  obtain ⟨k, hk, rfl⟩ := List.mem_map.mp hw
  have hk := List.mem_range.mp hk
  match k, hk with
  | 0, _ => exact (dz_g2 9 rfl rfl)
  | 1, _ => exact (dz_g2 11 rfl rfl)
  | 2, _ => exact (dz_g2 13 rfl rfl)
  | 3, _ => exact (dz_g2 15 rfl rfl)
  | 4, _ => exact (dz_g2 17 rfl rfl)
  | (k + 5), h => omega
theorem dz_uw_Model : ∀ w ∈ u_ws R_Model T_Model 29, w ∈ dz_GW := by
  intro w hw
  obtain ⟨k, hk, rfl⟩ := List.mem_map.mp hw
  have hk := List.mem_range.mp hk
  match k, hk with
  | 0, _ => exact (dz_g4 99 rfl rfl)
  | 1, _ => exact (dz_g4 101 rfl rfl)
  | 2, _ => exact (dz_g4 103 rfl rfl)
  | 3, _ => exact (dz_g4 105 rfl rfl)
  | 4, _ => exact (dz_g4 107 rfl rfl)
  | 5, _ => exact (dz_g4 109 rfl rfl)
  | 6, _ => exact (dz_g4 111 rfl rfl)
  | 7, _ => exact (dz_g4 113 rfl rfl)
  | 8, _ => exact (dz_g4 115 rfl rfl)
  | 9, _ => exact (dz_g4 117 rfl rfl)
  | 10, _ => exact (dz_g4 119 rfl rfl)
  | 11, _ => exact (dz_g4 121 rfl rfl)
  | 12, _ => exact (dz_g4 123 rfl rfl)
  | 13, _ => exact (dz_g4 125 rfl rfl)
  | 14, _ => exact (dz_g4 127 rfl rfl)
  | 15, _ => exact (dz_g4 129 rfl rfl)
  | 16, _ => exact (dz_g4 131 rfl rfl)
  | 17, _ => exact (dz_g4 133 rfl rfl)
  | 18, _ => exact (dz_g4 135 rfl rfl)
  | 19, _ => exact (dz_g4 137 rfl rfl)
  | 20, _ => exact (dz_g4 139 rfl rfl)
  | 21, _ => exact (dz_g4 141 rfl rfl)
  | 22, _ => exact (dz_g4 143 rfl rfl)
  | 23, _ => exact (dz_g4 145 rfl rfl)
  | 24, _ => exact (dz_g4 147 rfl rfl)
  | 25, _ => exact (dz_g4 149 rfl rfl)
  | 26, _ => exact (dz_g4 151 rfl rfl)
  | 27, _ => exact (dz_g4 153 rfl rfl)
  | 28, _ => exact (dz_g4 155 rfl rfl)
  | (k + 29), h => omega
theorem dz_cf : ∀ (ci : Nat) (r : vw_C), vwCl[ci]? = some r → (∀ w ∈ u_ws r.1 r.2.1 r.2.2, w ∈ dz_GW) ∧ (∀ a, a < r.2.2 → ∀ b, b < r.2.2 → a ≠ b → (r.2.1 a).2.1 ≠ (r.2.1 b).2.1) ∧ (∀ k, k < r.2.2 → parseFieldDescriptor (r.2.1 k).2.2.1 = some (dz_ft ci k)) ∧ (dz_fty ci).length = r.2.2 := by
  intro ci r h
  match ci, h with
  | 0, h => cases h; exact ⟨dz_uw_Typed, nm_Typed, tk_Typed, rfl⟩
  | 1, h => cases h; exact ⟨dz_uw_RuleList, nm_RuleList, tk_RuleList, rfl⟩
  | 2, h => cases h; exact ⟨dz_uw_Rule, nm_Rule, tk_Rule, rfl⟩
  | 3, h => cases h; exact ⟨dz_uw_Translator, nm_Translator, tk_Translator, rfl⟩
  | 4, h => cases h; exact ⟨dz_uw_Reader, nm_Reader, tk_Reader, rfl⟩
  | 5, h => cases h; exact ⟨dz_uw_Book, nm_Book, tk_Book, rfl⟩
  | 6, h => cases h; exact ⟨dz_uw_Block, nm_Block, tk_Block, rfl⟩
  | 7, h => cases h; exact ⟨dz_uw_DotBook, nm_DotBook, tk_DotBook, rfl⟩
  | 8, h => cases h; exact ⟨dz_uw_Model, nm_Model, tk_Model, rfl⟩
  | (n + 9), h => simp [vwCl] at h
def y_DotBook_init : MethodName := ⟨R_DotBook, "<init>", "(II)V"⟩
abbrev b_DotBook_init : ByteArray := prog_1_method_1_code
def y_DotBook_type : MethodName := ⟨R_DotBook, "type", "(C)I"⟩
abbrev b_DotBook_type : ByteArray := prog_1_method_2_code
def y_DotBook_wipe : MethodName := ⟨R_DotBook, "wipe", "()V"⟩
abbrev b_DotBook_wipe : ByteArray := prog_1_method_3_code
def y_DotBook_rules : MethodName := ⟨R_DotBook, "rules", "(Z)I"⟩
abbrev b_DotBook_rules : ByteArray := prog_1_method_4_code
def y_DotBook_wrong : MethodName := ⟨R_DotBook, "wrong", "()I"⟩
abbrev b_DotBook_wrong : ByteArray := prog_1_method_5_code
def y_DotBook_block : MethodName := ⟨R_DotBook, "block", "(I)I"⟩
abbrev b_DotBook_block : ByteArray := prog_1_method_6_code
def y_DotBook_size : MethodName := ⟨R_DotBook, "size", "(I)I"⟩
abbrev b_DotBook_size : ByteArray := prog_1_method_7_code
def y_DotBook_cell : MethodName := ⟨R_DotBook, "cell", "(II)I"⟩
abbrev b_DotBook_cell : ByteArray := prog_1_method_8_code
def y_DotBook_back : MethodName := ⟨R_DotBook, "back", "(I)I"⟩
abbrev b_DotBook_back : ByteArray := prog_1_method_9_code
def y_DotBook_heard : MethodName := ⟨R_DotBook, "heard", "(I)C"⟩
abbrev b_DotBook_heard : ByteArray := prog_1_method_10_code
def y_DotBook_pages : MethodName := ⟨R_DotBook, "pages", "()I"⟩
abbrev b_DotBook_pages : ByteArray := prog_1_method_11_code
def y_DotBook_at : MethodName := ⟨R_DotBook, "at", "(III)I"⟩
abbrev b_DotBook_at : ByteArray := prog_1_method_12_code
def y_DotBook_where : MethodName := ⟨R_DotBook, "where", "(I)I"⟩
abbrev b_DotBook_where : ByteArray := prog_1_method_13_code
def y_DotBook_heading : MethodName := ⟨R_DotBook, "heading", "(I)I"⟩
abbrev b_DotBook_heading : ByteArray := prog_1_method_14_code
def y_DotBook_clear : MethodName := ⟨R_DotBook, "clear", "()V"⟩
abbrev b_DotBook_clear : ByteArray := prog_1_method_15_code
def y_Model_init : MethodName := ⟨R_Model, "<init>", "(II)V"⟩
abbrev b_Model_init : ByteArray := prog_11_method_1_code
def y_Model_thrown : MethodName := ⟨R_Model, "thrown", "()I"⟩
abbrev b_Model_thrown : ByteArray := prog_11_method_2_code
def y_Model_isSmall : MethodName := ⟨R_Model, "isSmall", "(C)Z"⟩
abbrev b_Model_isSmall : ByteArray := prog_11_method_3_code
def y_Model_isCapital : MethodName := ⟨R_Model, "isCapital", "(C)Z"⟩
abbrev b_Model_isCapital : ByteArray := prog_11_method_4_code
def y_Model_isLetter : MethodName := ⟨R_Model, "isLetter", "(C)Z"⟩
abbrev b_Model_isLetter : ByteArray := prog_11_method_5_code
def y_Model_isDigit : MethodName := ⟨R_Model, "isDigit", "(C)Z"⟩
abbrev b_Model_isDigit : ByteArray := prog_11_method_6_code
def y_Model_small : MethodName := ⟨R_Model, "small", "(C)C"⟩
abbrev b_Model_small : ByteArray := prog_11_method_7_code
def y_Model_cellOf : MethodName := ⟨R_Model, "cellOf", "(C)I"⟩
abbrev b_Model_cellOf : ByteArray := prog_11_method_8_code
def y_Model_markOf : MethodName := ⟨R_Model, "markOf", "(C)I"⟩
abbrev b_Model_markOf : ByteArray := prog_11_method_9_code
def y_Model_digitCell : MethodName := ⟨R_Model, "digitCell", "(I)I"⟩
abbrev b_Model_digitCell : ByteArray := prog_11_method_10_code
def y_Model_type : MethodName := ⟨R_Model, "type", "(C)I"⟩
abbrev b_Model_type : ByteArray := prog_11_method_11_code
def y_Model_wipe : MethodName := ⟨R_Model, "wipe", "()V"⟩
abbrev b_Model_wipe : ByteArray := prog_11_method_12_code
def y_Model_kindOf : MethodName := ⟨R_Model, "kindOf", "(C)I"⟩
abbrev b_Model_kindOf : ByteArray := prog_11_method_13_code
def y_Model_readCells : MethodName := ⟨R_Model, "readCells", "(II)Z"⟩
abbrev b_Model_readCells : ByteArray := prog_11_method_14_code
def y_Model_isThere : MethodName := ⟨R_Model, "isThere", "()Z"⟩
abbrev b_Model_isThere : ByteArray := prog_11_method_15_code
def y_Model_takeRule : MethodName := ⟨R_Model, "takeRule", "(II)Z"⟩
abbrev b_Model_takeRule : ByteArray := prog_11_method_16_code
def y_Model_rules : MethodName := ⟨R_Model, "rules", "(Z)I"⟩
abbrev b_Model_rules : ByteArray := prog_11_method_17_code
def y_Model_wrong : MethodName := ⟨R_Model, "wrong", "()I"⟩
abbrev b_Model_wrong : ByteArray := prog_11_method_18_code
def y_Model_applies : MethodName := ⟨R_Model, "applies", "(IIIII)Z"⟩
abbrev b_Model_applies : ByteArray := prog_11_method_19_code
def y_Model_add : MethodName := ⟨R_Model, "add", "(II)V"⟩
abbrev b_Model_add : ByteArray := prog_11_method_20_code
def y_Model_stands : MethodName := ⟨R_Model, "stands", "(IIIIZ)Z"⟩
abbrev b_Model_stands : ByteArray := prog_11_method_21_code
def y_Model_translateWord : MethodName := ⟨R_Model, "translateWord", "(II)V"⟩
abbrev b_Model_translateWord : ByteArray := prog_11_method_22_code
def y_Model_translate : MethodName := ⟨R_Model, "translate", "()V"⟩
abbrev b_Model_translate : ByteArray := prog_11_method_23_code
def y_Model_block : MethodName := ⟨R_Model, "block", "(I)I"⟩
abbrev b_Model_block : ByteArray := prog_11_method_24_code
def y_Model_noBlock : MethodName := ⟨R_Model, "noBlock", "(I)Z"⟩
abbrev b_Model_noBlock : ByteArray := prog_11_method_25_code
def y_Model_size : MethodName := ⟨R_Model, "size", "(I)I"⟩
abbrev b_Model_size : ByteArray := prog_11_method_26_code
def y_Model_cell : MethodName := ⟨R_Model, "cell", "(II)I"⟩
abbrev b_Model_cell : ByteArray := prog_11_method_27_code
def y_Model_hear : MethodName := ⟨R_Model, "hear", "(C)V"⟩
abbrev b_Model_hear : ByteArray := prog_11_method_28_code
def y_Model_characterOf : MethodName := ⟨R_Model, "characterOf", "(I)C"⟩
abbrev b_Model_characterOf : ByteArray := prog_11_method_29_code
def y_Model_digitOf : MethodName := ⟨R_Model, "digitOf", "(I)I"⟩
abbrev b_Model_digitOf : ByteArray := prog_11_method_30_code
def y_Model_cellsStand : MethodName := ⟨R_Model, "cellsStand", "(IIII)Z"⟩
abbrev b_Model_cellsStand : ByteArray := prog_11_method_31_code
def y_Model_readOne : MethodName := ⟨R_Model, "readOne", "(III)I"⟩
abbrev b_Model_readOne : ByteArray := prog_11_method_32_code
def y_Model_readPiece : MethodName := ⟨R_Model, "readPiece", "(II)V"⟩
abbrev b_Model_readPiece : ByteArray := prog_11_method_33_code
def y_Model_back : MethodName := ⟨R_Model, "back", "(I)I"⟩
abbrev b_Model_back : ByteArray := prog_11_method_34_code
def y_Model_heard : MethodName := ⟨R_Model, "heard", "(I)C"⟩
abbrev b_Model_heard : ByteArray := prog_11_method_35_code
def y_Model_putLine : MethodName := ⟨R_Model, "putLine", "(II)V"⟩
abbrev b_Model_putLine : ByteArray := prog_11_method_36_code
def y_Model_indentOf : MethodName := ⟨R_Model, "indentOf", "(II)I"⟩
abbrev b_Model_indentOf : ByteArray := prog_11_method_37_code
def y_Model_lay : MethodName := ⟨R_Model, "lay", "(IZ)I"⟩
abbrev b_Model_lay : ByteArray := prog_11_method_38_code
def y_Model_closeLine : MethodName := ⟨R_Model, "closeLine", "(IIZ)V"⟩
abbrev b_Model_closeLine : ByteArray := prog_11_method_39_code
def y_Model_layOut : MethodName := ⟨R_Model, "layOut", "(II)V"⟩
abbrev b_Model_layOut : ByteArray := prog_11_method_40_code
def y_Model_pages : MethodName := ⟨R_Model, "pages", "()I"⟩
abbrev b_Model_pages : ByteArray := prog_11_method_41_code
def y_Model_number : MethodName := ⟨R_Model, "number", "(I)V"⟩
abbrev b_Model_number : ByteArray := prog_11_method_42_code
def y_Model_at : MethodName := ⟨R_Model, "at", "(III)I"⟩
abbrev b_Model_at : ByteArray := prog_11_method_43_code
def y_Model_where : MethodName := ⟨R_Model, "where", "(I)I"⟩
abbrev b_Model_where : ByteArray := prog_11_method_44_code
def y_Model_heading : MethodName := ⟨R_Model, "heading", "(I)I"⟩
abbrev b_Model_heading : ByteArray := prog_11_method_45_code
def y_Model_clear : MethodName := ⟨R_Model, "clear", "()V"⟩
abbrev b_Model_clear : ByteArray := prog_11_method_46_code
def y_Block_init : MethodName := ⟨R_Block, "<init>", "()V"⟩
abbrev b_Block_init : ByteArray := prog_2_method_1_code
def y_Block_begin : MethodName := ⟨R_Block, "begin", "(I)V"⟩
abbrev b_Block_begin : ByteArray := prog_2_method_2_code
def y_Block_put : MethodName := ⟨R_Block, "put", "(II)V"⟩
abbrev b_Block_put : ByteArray := prog_2_method_3_code
def y_Block_cellAt : MethodName := ⟨R_Block, "cellAt", "(I)I"⟩
abbrev b_Block_cellAt : ByteArray := prog_2_method_4_code
def y_Block_endOfPiece : MethodName := ⟨R_Block, "endOfPiece", "(I)I"⟩
abbrev b_Block_endOfPiece : ByteArray := prog_2_method_5_code
def y_Block_cutIntoLines : MethodName := ⟨R_Block, "cutIntoLines", "(I)V"⟩
abbrev b_Block_cutIntoLines : ByteArray := prog_2_method_6_code
def y_Block_layPiece : MethodName := ⟨R_Block, "layPiece", "(III)V"⟩
abbrev b_Block_layPiece : ByteArray := prog_2_method_7_code
def y_Block_roomLeft : MethodName := ⟨R_Block, "roomLeft", "(I)I"⟩
abbrev b_Block_roomLeft : ByteArray := prog_2_method_8_code
def y_Block_beginLine : MethodName := ⟨R_Block, "beginLine", "()V"⟩
abbrev b_Block_beginLine : ByteArray := prog_2_method_9_code
def y_Block_layCell : MethodName := ⟨R_Block, "layCell", "(I)V"⟩
abbrev b_Block_layCell : ByteArray := prog_2_method_10_code
def y_Block_indentOf : MethodName := ⟨R_Block, "indentOf", "(I)I"⟩
abbrev b_Block_indentOf : ByteArray := prog_2_method_11_code
def y_Block_lengthOf : MethodName := ⟨R_Block, "lengthOf", "(I)I"⟩
abbrev b_Block_lengthOf : ByteArray := prog_2_method_12_code
def y_Block_cellOfLine : MethodName := ⟨R_Block, "cellOfLine", "(III)I"⟩
abbrev b_Block_cellOfLine : ByteArray := prog_2_method_13_code
def y_Book_init : MethodName := ⟨R_Book, "<init>", "(II)V"⟩
abbrev b_Book_init : ByteArray := prog_3_method_1_code
def y_Book_empty : MethodName := ⟨R_Book, "empty", "()V"⟩
abbrev b_Book_empty : ByteArray := prog_3_method_2_code
def y_Book_layOut : MethodName := ⟨R_Book, "layOut", "(LDotBook$Block;)V"⟩
abbrev b_Book_layOut : ByteArray := prog_3_method_3_code
def y_Book_makeWayForHeading : MethodName := ⟨R_Book, "makeWayForHeading", "(I)V"⟩
abbrev b_Book_makeWayForHeading : ByteArray := prog_3_method_4_code
def y_Book_turnPage : MethodName := ⟨R_Book, "turnPage", "()V"⟩
abbrev b_Book_turnPage : ByteArray := prog_3_method_5_code
def y_Book_cellOfText : MethodName := ⟨R_Book, "cellOfText", "(III)I"⟩
abbrev b_Book_cellOfText : ByteArray := prog_3_method_6_code
def y_Book_cellOfNumber : MethodName := ⟨R_Book, "cellOfNumber", "(II)I"⟩
abbrev b_Book_cellOfNumber : ByteArray := prog_3_method_7_code
def y_Code_isSmall : MethodName := ⟨R_Code, "isSmall", "(C)Z"⟩
abbrev b_Code_isSmall : ByteArray := prog_4_method_2_code
def y_Code_isCapital : MethodName := ⟨R_Code, "isCapital", "(C)Z"⟩
abbrev b_Code_isCapital : ByteArray := prog_4_method_3_code
def y_Code_isLetter : MethodName := ⟨R_Code, "isLetter", "(C)Z"⟩
abbrev b_Code_isLetter : ByteArray := prog_4_method_4_code
def y_Code_isDigit : MethodName := ⟨R_Code, "isDigit", "(C)Z"⟩
abbrev b_Code_isDigit : ByteArray := prog_4_method_5_code
def y_Code_looksLikeDigit : MethodName := ⟨R_Code, "looksLikeDigit", "(C)Z"⟩
abbrev b_Code_looksLikeDigit : ByteArray := prog_4_method_6_code
def y_Code_hasCell : MethodName := ⟨R_Code, "hasCell", "(C)Z"⟩
abbrev b_Code_hasCell : ByteArray := prog_4_method_7_code
def y_Code_toSmall : MethodName := ⟨R_Code, "toSmall", "(C)C"⟩
abbrev b_Code_toSmall : ByteArray := prog_4_method_8_code
def y_Code_toCapital : MethodName := ⟨R_Code, "toCapital", "(C)C"⟩
abbrev b_Code_toCapital : ByteArray := prog_4_method_9_code
def y_Code_cellOf : MethodName := ⟨R_Code, "cellOf", "(C)I"⟩
abbrev b_Code_cellOf : ByteArray := prog_4_method_10_code
def y_Code_digitOf : MethodName := ⟨R_Code, "digitOf", "(I)C"⟩
abbrev b_Code_digitOf : ByteArray := prog_4_method_11_code
def y_Code_characterOf : MethodName := ⟨R_Code, "characterOf", "(I)C"⟩
abbrev b_Code_characterOf : ByteArray := prog_4_method_12_code
def y_Reader_init : MethodName := ⟨R_Reader, "<init>", "(LDotBook$RuleList;)V"⟩
abbrev b_Reader_init : ByteArray := prog_5_method_1_code
def y_Reader_readBlock : MethodName := ⟨R_Reader, "readBlock", "(LDotBook$Block;)V"⟩
abbrev b_Reader_readBlock : ByteArray := prog_5_method_2_code
def y_Reader_readPiece : MethodName := ⟨R_Reader, "readPiece", "(LDotBook$Block;I)V"⟩
abbrev b_Reader_readPiece : ByteArray := prog_5_method_3_code
def y_Reader_readCellsAt : MethodName := ⟨R_Reader, "readCellsAt", "(LDotBook$Block;I)I"⟩
abbrev b_Reader_readCellsAt : ByteArray := prog_5_method_4_code
def y_Reader_passCapitalSigns : MethodName := ⟨R_Reader, "passCapitalSigns", "(LDotBook$Block;I)I"⟩
abbrev b_Reader_passCapitalSigns : ByteArray := prog_5_method_5_code
def y_Reader_capitalSignsAt : MethodName := ⟨R_Reader, "capitalSignsAt", "(LDotBook$Block;I)I"⟩
abbrev b_Reader_capitalSignsAt : ByteArray := prog_5_method_6_code
def y_Reader_ruleAt : MethodName := ⟨R_Reader, "ruleAt", "(LDotBook$Block;I)LDotBook$Rule;"⟩
abbrev b_Reader_ruleAt : ByteArray := prog_5_method_7_code
def y_Reader_isBetter : MethodName := ⟨R_Reader, "isBetter", "(LDotBook$Rule;LDotBook$Rule;)Z"⟩
abbrev b_Reader_isBetter : ByteArray := prog_5_method_8_code
def y_Reader_putInCase : MethodName := ⟨R_Reader, "putInCase", "(C)V"⟩
abbrev b_Reader_putInCase : ByteArray := prog_5_method_9_code
def y_Reader_put : MethodName := ⟨R_Reader, "put", "(C)V"⟩
abbrev b_Reader_put : ByteArray := prog_5_method_10_code
def y_Rule_init : MethodName := ⟨R_Rule, "<init>", "()V"⟩
abbrev b_Rule_init : ByteArray := prog_6_method_1_code
def y_Rule_readFrom : MethodName := ⟨R_Rule, "readFrom", "(LDotBook$Typed;II)Z"⟩
abbrev b_Rule_readFrom : ByteArray := prog_6_method_2_code
def y_Rule_readLetters : MethodName := ⟨R_Rule, "readLetters", "(LDotBook$Typed;I)V"⟩
abbrev b_Rule_readLetters : ByteArray := prog_6_method_3_code
def y_Rule_readCells : MethodName := ⟨R_Rule, "readCells", "(LDotBook$Typed;II)Z"⟩
abbrev b_Rule_readCells : ByteArray := prog_6_method_4_code
def y_Rule_putCell : MethodName := ⟨R_Rule, "putCell", "(I)Z"⟩
abbrev b_Rule_putCell : ByteArray := prog_6_method_5_code
def y_Rule_isLike : MethodName := ⟨R_Rule, "isLike", "(LDotBook$Rule;)Z"⟩
abbrev b_Rule_isLike : ByteArray := prog_6_method_6_code
def y_Rule_applies : MethodName := ⟨R_Rule, "applies", "(ZZ)Z"⟩
abbrev b_Rule_applies : ByteArray := prog_6_method_7_code
def y_Rule_hasLettersAt : MethodName := ⟨R_Rule, "hasLettersAt", "(LDotBook$Typed;IZ)Z"⟩
abbrev b_Rule_hasLettersAt : ByteArray := prog_6_method_8_code
def y_Rule_hasCellsAt : MethodName := ⟨R_Rule, "hasCellsAt", "(LDotBook$Block;I)Z"⟩
abbrev b_Rule_hasCellsAt : ByteArray := prog_6_method_9_code
def y_RuleList_init : MethodName := ⟨R_RuleList, "<init>", "()V"⟩
abbrev b_RuleList_init : ByteArray := prog_7_method_1_code
def y_RuleList_take : MethodName := ⟨R_RuleList, "take", "(LDotBook$Typed;Z)Z"⟩
abbrev b_RuleList_take : ByteArray := prog_7_method_2_code
def y_RuleList_takeOne : MethodName := ⟨R_RuleList, "takeOne", "(LDotBook$Typed;II)Z"⟩
abbrev b_RuleList_takeOne : ByteArray := prog_7_method_3_code
def y_RuleList_hasLike : MethodName := ⟨R_RuleList, "hasLike", "(LDotBook$Rule;)Z"⟩
abbrev b_RuleList_hasLike : ByteArray := prog_7_method_4_code
def y_Translator_init : MethodName := ⟨R_Translator, "<init>", "(LDotBook$Typed;LDotBook$RuleList;)V"⟩
abbrev b_Translator_init : ByteArray := prog_8_method_1_code
def y_Translator_translateInto : MethodName := ⟨R_Translator, "translateInto", "(LDotBook$Block;)V"⟩
abbrev b_Translator_translateInto : ByteArray := prog_8_method_2_code
def y_Translator_putSingle : MethodName := ⟨R_Translator, "putSingle", "(LDotBook$Block;I)V"⟩
abbrev b_Translator_putSingle : ByteArray := prog_8_method_3_code
def y_Translator_findWord : MethodName := ⟨R_Translator, "findWord", "(I)V"⟩
abbrev b_Translator_findWord : ByteArray := prog_8_method_4_code
def y_Translator_putWord : MethodName := ⟨R_Translator, "putWord", "(LDotBook$Block;)V"⟩
abbrev b_Translator_putWord : ByteArray := prog_8_method_5_code
def y_Translator_putLettersAt : MethodName := ⟨R_Translator, "putLettersAt", "(LDotBook$Block;I)I"⟩
abbrev b_Translator_putLettersAt : ByteArray := prog_8_method_6_code
def y_Translator_ruleAt : MethodName := ⟨R_Translator, "ruleAt", "(I)LDotBook$Rule;"⟩
abbrev b_Translator_ruleAt : ByteArray := prog_8_method_7_code
def y_Translator_isBetter : MethodName := ⟨R_Translator, "isBetter", "(LDotBook$Rule;LDotBook$Rule;)Z"⟩
abbrev b_Translator_isBetter : ByteArray := prog_8_method_8_code
def y_Typed_init : MethodName := ⟨R_Typed, "<init>", "()V"⟩
abbrev b_Typed_init : ByteArray := prog_9_method_1_code
def y_Typed_put : MethodName := ⟨R_Typed, "put", "(C)V"⟩
abbrev b_Typed_put : ByteArray := prog_9_method_2_code
def y_Typed_characterAt : MethodName := ⟨R_Typed, "characterAt", "(I)C"⟩
abbrev b_Typed_characterAt : ByteArray := prog_9_method_3_code
def y_Typed_canBeTranslated : MethodName := ⟨R_Typed, "canBeTranslated", "()Z"⟩
abbrev b_Typed_canBeTranslated : ByteArray := prog_9_method_4_code
def y_Law_cell_0 : MethodName := ⟨R_Law, "cell", "([II)I"⟩
abbrev b_Law_cell_0 : ByteArray := method_2_code
def y_Law_type : MethodName := ⟨R_Law, "type", "(LDotBook;C[J)I"⟩
abbrev b_Law_type : ByteArray := method_3_code
def y_Law_rules : MethodName := ⟨R_Law, "rules", "(LDotBook;Z[J)I"⟩
abbrev b_Law_rules : ByteArray := method_4_code
def y_Law_block : MethodName := ⟨R_Law, "block", "(LDotBook;I[J)I"⟩
abbrev b_Law_block : ByteArray := method_5_code
def y_Law_size : MethodName := ⟨R_Law, "size", "(LDotBook;I[J)I"⟩
abbrev b_Law_size : ByteArray := method_6_code
def y_Law_cell_1 : MethodName := ⟨R_Law, "cell", "(LDotBook;II[J)I"⟩
abbrev b_Law_cell_1 : ByteArray := method_7_code
def y_Law_back : MethodName := ⟨R_Law, "back", "(LDotBook;I[J)I"⟩
abbrev b_Law_back : ByteArray := method_8_code
def y_Law_at : MethodName := ⟨R_Law, "at", "(LDotBook;III[J)I"⟩
abbrev b_Law_at : ByteArray := method_9_code
def y_Law_where : MethodName := ⟨R_Law, "where", "(LDotBook;I[J)I"⟩
abbrev b_Law_where : ByteArray := method_10_code
def y_Law_law : MethodName := ⟨R_Law, "law", "([I)Z"⟩
abbrev b_Law_law : ByteArray := code
end
section
theorem d_Code_isSmall_0 : decode b_Code_isSmall 0 = .ok (.iload_n 0, 1) := by decide +kernel
theorem d_Code_isSmall_1 : decode b_Code_isSmall 1 = .ok (.bipush 97, 2) := by decide +kernel
theorem d_Code_isSmall_3 : decode b_Code_isSmall 3 = .ok (.if_icmp .lt 13, 3) := by decide +kernel
theorem d_Code_isSmall_6 : decode b_Code_isSmall 6 = .ok (.iload_n 0, 1) := by decide +kernel
theorem d_Code_isSmall_7 : decode b_Code_isSmall 7 = .ok (.bipush 122, 2) := by decide +kernel
theorem d_Code_isSmall_9 : decode b_Code_isSmall 9 = .ok (.if_icmp .gt 7, 3) := by decide +kernel
theorem d_Code_isSmall_12 : decode b_Code_isSmall 12 = .ok (.iconst 1, 1) := by decide +kernel
theorem d_Code_isSmall_13 : decode b_Code_isSmall 13 = .ok (.goto 4, 3) := by decide +kernel
theorem d_Code_isSmall_16 : decode b_Code_isSmall 16 = .ok (.iconst 0, 1) := by decide +kernel
theorem d_Code_isSmall_17 : decode b_Code_isSmall 17 = .ok (.ireturn, 1) := by decide +kernel
theorem d_Code_isCapital_0 : decode b_Code_isCapital 0 = .ok (.iload_n 0, 1) := by decide +kernel
theorem d_Code_isCapital_1 : decode b_Code_isCapital 1 = .ok (.bipush 65, 2) := by decide +kernel
theorem d_Code_isCapital_3 : decode b_Code_isCapital 3 = .ok (.if_icmp .lt 13, 3) := by decide +kernel
theorem d_Code_isCapital_6 : decode b_Code_isCapital 6 = .ok (.iload_n 0, 1) := by decide +kernel
theorem d_Code_isCapital_7 : decode b_Code_isCapital 7 = .ok (.bipush 90, 2) := by decide +kernel
theorem d_Code_isCapital_9 : decode b_Code_isCapital 9 = .ok (.if_icmp .gt 7, 3) := by decide +kernel
theorem d_Code_isCapital_12 : decode b_Code_isCapital 12 = .ok (.iconst 1, 1) := by decide +kernel
theorem d_Code_isCapital_13 : decode b_Code_isCapital 13 = .ok (.goto 4, 3) := by decide +kernel
theorem d_Code_isCapital_16 : decode b_Code_isCapital 16 = .ok (.iconst 0, 1) := by decide +kernel
theorem d_Code_isCapital_17 : decode b_Code_isCapital 17 = .ok (.ireturn, 1) := by decide +kernel
theorem d_Code_isLetter_0 : decode b_Code_isLetter 0 = .ok (.iload_n 0, 1) := by decide +kernel
theorem d_Code_isLetter_1 : decode b_Code_isLetter 1 = .ok (.invokestatic 9, 3) := by decide +kernel
theorem d_Code_isLetter_4 : decode b_Code_isLetter 4 = .ok (.ifCond .ne 10, 3) := by decide +kernel
theorem d_Code_isLetter_7 : decode b_Code_isLetter 7 = .ok (.iload_n 0, 1) := by decide +kernel
theorem d_Code_isLetter_8 : decode b_Code_isLetter 8 = .ok (.invokestatic 15, 3) := by decide +kernel
theorem d_Code_isLetter_11 : decode b_Code_isLetter 11 = .ok (.ifCond .eq 7, 3) := by decide +kernel
theorem d_Code_isLetter_14 : decode b_Code_isLetter 14 = .ok (.iconst 1, 1) := by decide +kernel
theorem d_Code_isLetter_15 : decode b_Code_isLetter 15 = .ok (.goto 4, 3) := by decide +kernel
theorem d_Code_isLetter_18 : decode b_Code_isLetter 18 = .ok (.iconst 0, 1) := by decide +kernel
theorem d_Code_isLetter_19 : decode b_Code_isLetter 19 = .ok (.ireturn, 1) := by decide +kernel
theorem d_Code_isDigit_0 : decode b_Code_isDigit 0 = .ok (.iload_n 0, 1) := by decide +kernel
theorem d_Code_isDigit_1 : decode b_Code_isDigit 1 = .ok (.bipush 48, 2) := by decide +kernel
theorem d_Code_isDigit_3 : decode b_Code_isDigit 3 = .ok (.if_icmp .lt 13, 3) := by decide +kernel
theorem d_Code_isDigit_6 : decode b_Code_isDigit 6 = .ok (.iload_n 0, 1) := by decide +kernel
theorem d_Code_isDigit_7 : decode b_Code_isDigit 7 = .ok (.bipush 57, 2) := by decide +kernel
theorem d_Code_isDigit_9 : decode b_Code_isDigit 9 = .ok (.if_icmp .gt 7, 3) := by decide +kernel
theorem d_Code_isDigit_12 : decode b_Code_isDigit 12 = .ok (.iconst 1, 1) := by decide +kernel
theorem d_Code_isDigit_13 : decode b_Code_isDigit 13 = .ok (.goto 4, 3) := by decide +kernel
theorem d_Code_isDigit_16 : decode b_Code_isDigit 16 = .ok (.iconst 0, 1) := by decide +kernel
theorem d_Code_isDigit_17 : decode b_Code_isDigit 17 = .ok (.ireturn, 1) := by decide +kernel
theorem d_Code_looksLikeDigit_0 : decode b_Code_looksLikeDigit 0 = .ok (.iload_n 0, 1) := by decide +kernel
theorem d_Code_looksLikeDigit_1 : decode b_Code_looksLikeDigit 1 = .ok (.bipush 97, 2) := by decide +kernel
theorem d_Code_looksLikeDigit_3 : decode b_Code_looksLikeDigit 3 = .ok (.if_icmp .lt 13, 3) := by decide +kernel
theorem d_Code_looksLikeDigit_6 : decode b_Code_looksLikeDigit 6 = .ok (.iload_n 0, 1) := by decide +kernel
theorem d_Code_looksLikeDigit_7 : decode b_Code_looksLikeDigit 7 = .ok (.bipush 106, 2) := by decide +kernel
theorem d_Code_looksLikeDigit_9 : decode b_Code_looksLikeDigit 9 = .ok (.if_icmp .gt 7, 3) := by decide +kernel
theorem d_Code_looksLikeDigit_12 : decode b_Code_looksLikeDigit 12 = .ok (.iconst 1, 1) := by decide +kernel
theorem d_Code_looksLikeDigit_13 : decode b_Code_looksLikeDigit 13 = .ok (.goto 4, 3) := by decide +kernel
theorem d_Code_looksLikeDigit_16 : decode b_Code_looksLikeDigit 16 = .ok (.iconst 0, 1) := by decide +kernel
theorem d_Code_looksLikeDigit_17 : decode b_Code_looksLikeDigit 17 = .ok (.ireturn, 1) := by decide +kernel
theorem d_Code_hasCell_0 : decode b_Code_hasCell 0 = .ok (.iload_n 0, 1) := by decide +kernel
theorem d_Code_hasCell_1 : decode b_Code_hasCell 1 = .ok (.bipush 32, 2) := by decide +kernel
theorem d_Code_hasCell_3 : decode b_Code_hasCell 3 = .ok (.if_icmp .eq 26, 3) := by decide +kernel
theorem d_Code_hasCell_6 : decode b_Code_hasCell 6 = .ok (.iload_n 0, 1) := by decide +kernel
theorem d_Code_hasCell_7 : decode b_Code_hasCell 7 = .ok (.invokestatic 18, 3) := by decide +kernel
theorem d_Code_hasCell_10 : decode b_Code_hasCell 10 = .ok (.ifCond .ne 19, 3) := by decide +kernel
theorem d_Code_hasCell_13 : decode b_Code_hasCell 13 = .ok (.iload_n 0, 1) := by decide +kernel
theorem d_Code_hasCell_14 : decode b_Code_hasCell 14 = .ok (.invokestatic 21, 3) := by decide +kernel
theorem d_Code_hasCell_17 : decode b_Code_hasCell 17 = .ok (.ifCond .ne 12, 3) := by decide +kernel
theorem d_Code_hasCell_20 : decode b_Code_hasCell 20 = .ok (.ldc 24, 2) := by decide +kernel
theorem d_Code_hasCell_22 : decode b_Code_hasCell 22 = .ok (.iload_n 0, 1) := by decide +kernel
theorem d_Code_hasCell_23 : decode b_Code_hasCell 23 = .ok (.invokevirtual 26, 3) := by decide +kernel
theorem d_Code_hasCell_26 : decode b_Code_hasCell 26 = .ok (.ifCond .lt 7, 3) := by decide +kernel
theorem d_Code_hasCell_29 : decode b_Code_hasCell 29 = .ok (.iconst 1, 1) := by decide +kernel
theorem d_Code_hasCell_30 : decode b_Code_hasCell 30 = .ok (.goto 4, 3) := by decide +kernel
theorem d_Code_hasCell_33 : decode b_Code_hasCell 33 = .ok (.iconst 0, 1) := by decide +kernel
theorem d_Code_hasCell_34 : decode b_Code_hasCell 34 = .ok (.ireturn, 1) := by decide +kernel
theorem d_Code_toSmall_0 : decode b_Code_toSmall 0 = .ok (.iload_n 0, 1) := by decide +kernel
theorem d_Code_toSmall_1 : decode b_Code_toSmall 1 = .ok (.bipush 65, 2) := by decide +kernel
theorem d_Code_toSmall_3 : decode b_Code_toSmall 3 = .ok (.if_icmp .lt 20, 3) := by decide +kernel
theorem d_Code_toSmall_6 : decode b_Code_toSmall 6 = .ok (.iload_n 0, 1) := by decide +kernel
theorem d_Code_toSmall_7 : decode b_Code_toSmall 7 = .ok (.bipush 90, 2) := by decide +kernel
theorem d_Code_toSmall_9 : decode b_Code_toSmall 9 = .ok (.if_icmp .gt 14, 3) := by decide +kernel
theorem d_Code_toSmall_12 : decode b_Code_toSmall 12 = .ok (.iload_n 0, 1) := by decide +kernel
theorem d_Code_toSmall_13 : decode b_Code_toSmall 13 = .ok (.bipush 65, 2) := by decide +kernel
theorem d_Code_toSmall_15 : decode b_Code_toSmall 15 = .ok (.isub, 1) := by decide +kernel
theorem d_Code_toSmall_16 : decode b_Code_toSmall 16 = .ok (.bipush 97, 2) := by decide +kernel
theorem d_Code_toSmall_18 : decode b_Code_toSmall 18 = .ok (.iadd, 1) := by decide +kernel
theorem d_Code_toSmall_19 : decode b_Code_toSmall 19 = .ok (.i2c, 1) := by decide +kernel
theorem d_Code_toSmall_20 : decode b_Code_toSmall 20 = .ok (.goto 4, 3) := by decide +kernel
theorem d_Code_toSmall_23 : decode b_Code_toSmall 23 = .ok (.iload_n 0, 1) := by decide +kernel
theorem d_Code_toSmall_24 : decode b_Code_toSmall 24 = .ok (.ireturn, 1) := by decide +kernel
theorem d_Code_toCapital_0 : decode b_Code_toCapital 0 = .ok (.iload_n 0, 1) := by decide +kernel
theorem d_Code_toCapital_1 : decode b_Code_toCapital 1 = .ok (.bipush 97, 2) := by decide +kernel
theorem d_Code_toCapital_3 : decode b_Code_toCapital 3 = .ok (.if_icmp .lt 20, 3) := by decide +kernel
theorem d_Code_toCapital_6 : decode b_Code_toCapital 6 = .ok (.iload_n 0, 1) := by decide +kernel
theorem d_Code_toCapital_7 : decode b_Code_toCapital 7 = .ok (.bipush 122, 2) := by decide +kernel
theorem d_Code_toCapital_9 : decode b_Code_toCapital 9 = .ok (.if_icmp .gt 14, 3) := by decide +kernel
theorem d_Code_toCapital_12 : decode b_Code_toCapital 12 = .ok (.iload_n 0, 1) := by decide +kernel
theorem d_Code_toCapital_13 : decode b_Code_toCapital 13 = .ok (.bipush 97, 2) := by decide +kernel
theorem d_Code_toCapital_15 : decode b_Code_toCapital 15 = .ok (.isub, 1) := by decide +kernel
theorem d_Code_toCapital_16 : decode b_Code_toCapital 16 = .ok (.bipush 65, 2) := by decide +kernel
theorem d_Code_toCapital_18 : decode b_Code_toCapital 18 = .ok (.iadd, 1) := by decide +kernel
theorem d_Code_toCapital_19 : decode b_Code_toCapital 19 = .ok (.i2c, 1) := by decide +kernel
theorem d_Code_toCapital_20 : decode b_Code_toCapital 20 = .ok (.goto 4, 3) := by decide +kernel
theorem d_Code_toCapital_23 : decode b_Code_toCapital 23 = .ok (.iload_n 0, 1) := by decide +kernel
theorem d_Code_toCapital_24 : decode b_Code_toCapital 24 = .ok (.ireturn, 1) := by decide +kernel
theorem d_Code_cellOf_0 : decode b_Code_cellOf 0 = .ok (.iload_n 0, 1) := by decide +kernel
theorem d_Code_cellOf_1 : decode b_Code_cellOf 1 = .ok (.invokestatic 18, 3) := by decide +kernel
theorem d_Code_cellOf_4 : decode b_Code_cellOf 4 = .ok (.ifCond .eq 15, 3) := by decide +kernel
theorem d_Code_cellOf_7 : decode b_Code_cellOf 7 = .ok (.getstatic 32, 3) := by decide +kernel
theorem d_Code_cellOf_10 : decode b_Code_cellOf 10 = .ok (.iload_n 0, 1) := by decide +kernel
theorem d_Code_cellOf_11 : decode b_Code_cellOf 11 = .ok (.invokestatic 36, 3) := by decide +kernel
theorem d_Code_cellOf_14 : decode b_Code_cellOf 14 = .ok (.bipush 97, 2) := by decide +kernel
theorem d_Code_cellOf_16 : decode b_Code_cellOf 16 = .ok (.isub, 1) := by decide +kernel
theorem d_Code_cellOf_17 : decode b_Code_cellOf 17 = .ok (.iaload, 1) := by decide +kernel
theorem d_Code_cellOf_18 : decode b_Code_cellOf 18 = .ok (.ireturn, 1) := by decide +kernel
theorem d_Code_cellOf_19 : decode b_Code_cellOf 19 = .ok (.iload_n 0, 1) := by decide +kernel
theorem d_Code_cellOf_20 : decode b_Code_cellOf 20 = .ok (.invokestatic 21, 3) := by decide +kernel
theorem d_Code_cellOf_23 : decode b_Code_cellOf 23 = .ok (.ifCond .eq 27, 3) := by decide +kernel
theorem d_Code_cellOf_26 : decode b_Code_cellOf 26 = .ok (.iload_n 0, 1) := by decide +kernel
theorem d_Code_cellOf_27 : decode b_Code_cellOf 27 = .ok (.bipush 48, 2) := by decide +kernel
theorem d_Code_cellOf_29 : decode b_Code_cellOf 29 = .ok (.if_icmp .ne 12, 3) := by decide +kernel
theorem d_Code_cellOf_32 : decode b_Code_cellOf 32 = .ok (.getstatic 32, 3) := by decide +kernel
theorem d_Code_cellOf_35 : decode b_Code_cellOf 35 = .ok (.bipush 9, 2) := by decide +kernel
theorem d_Code_cellOf_37 : decode b_Code_cellOf 37 = .ok (.iaload, 1) := by decide +kernel
theorem d_Code_cellOf_38 : decode b_Code_cellOf 38 = .ok (.goto 11, 3) := by decide +kernel
theorem d_Code_cellOf_41 : decode b_Code_cellOf 41 = .ok (.getstatic 32, 3) := by decide +kernel
theorem d_Code_cellOf_44 : decode b_Code_cellOf 44 = .ok (.iload_n 0, 1) := by decide +kernel
theorem d_Code_cellOf_45 : decode b_Code_cellOf 45 = .ok (.bipush 49, 2) := by decide +kernel
theorem d_Code_cellOf_47 : decode b_Code_cellOf 47 = .ok (.isub, 1) := by decide +kernel
theorem d_Code_cellOf_48 : decode b_Code_cellOf 48 = .ok (.iaload, 1) := by decide +kernel
theorem d_Code_cellOf_49 : decode b_Code_cellOf 49 = .ok (.ireturn, 1) := by decide +kernel
theorem d_Code_cellOf_50 : decode b_Code_cellOf 50 = .ok (.ldc 24, 2) := by decide +kernel
theorem d_Code_cellOf_52 : decode b_Code_cellOf 52 = .ok (.iload_n 0, 1) := by decide +kernel
theorem d_Code_cellOf_53 : decode b_Code_cellOf 53 = .ok (.invokevirtual 26, 3) := by decide +kernel
theorem d_Code_cellOf_56 : decode b_Code_cellOf 56 = .ok (.istore_n 1, 1) := by decide +kernel
theorem d_Code_cellOf_57 : decode b_Code_cellOf 57 = .ok (.iload_n 1, 1) := by decide +kernel
theorem d_Code_cellOf_58 : decode b_Code_cellOf 58 = .ok (.ifCond .lt 19, 3) := by decide +kernel
theorem d_Code_cellOf_61 : decode b_Code_cellOf 61 = .ok (.iload_n 1, 1) := by decide +kernel
theorem d_Code_cellOf_62 : decode b_Code_cellOf 62 = .ok (.getstatic 40, 3) := by decide +kernel
theorem d_Code_cellOf_65 : decode b_Code_cellOf 65 = .ok (.arraylength, 1) := by decide +kernel
theorem d_Code_cellOf_66 : decode b_Code_cellOf 66 = .ok (.if_icmp .ge 11, 3) := by decide +kernel
theorem d_Code_cellOf_69 : decode b_Code_cellOf 69 = .ok (.getstatic 40, 3) := by decide +kernel
theorem d_Code_cellOf_72 : decode b_Code_cellOf 72 = .ok (.iload_n 1, 1) := by decide +kernel
theorem d_Code_cellOf_73 : decode b_Code_cellOf 73 = .ok (.iaload, 1) := by decide +kernel
theorem d_Code_cellOf_74 : decode b_Code_cellOf 74 = .ok (.goto 4, 3) := by decide +kernel
theorem d_Code_cellOf_77 : decode b_Code_cellOf 77 = .ok (.iconst 0, 1) := by decide +kernel
theorem d_Code_cellOf_78 : decode b_Code_cellOf 78 = .ok (.ireturn, 1) := by decide +kernel
theorem d_Code_digitOf_0 : decode b_Code_digitOf 0 = .ok (.iconst 0, 1) := by decide +kernel
theorem d_Code_digitOf_1 : decode b_Code_digitOf 1 = .ok (.istore_n 1, 1) := by decide +kernel
theorem d_Code_digitOf_2 : decode b_Code_digitOf 2 = .ok (.iload_n 1, 1) := by decide +kernel
theorem d_Code_digitOf_3 : decode b_Code_digitOf 3 = .ok (.bipush 10, 2) := by decide +kernel
theorem d_Code_digitOf_5 : decode b_Code_digitOf 5 = .ok (.if_icmp .ge 29, 3) := by decide +kernel
theorem d_Code_digitOf_8 : decode b_Code_digitOf 8 = .ok (.getstatic 32, 3) := by decide +kernel
theorem d_Code_digitOf_11 : decode b_Code_digitOf 11 = .ok (.iload_n 1, 1) := by decide +kernel
theorem d_Code_digitOf_12 : decode b_Code_digitOf 12 = .ok (.iaload, 1) := by decide +kernel
theorem d_Code_digitOf_13 : decode b_Code_digitOf 13 = .ok (.iload_n 0, 1) := by decide +kernel
theorem d_Code_digitOf_14 : decode b_Code_digitOf 14 = .ok (.if_icmp .ne 14, 3) := by decide +kernel
theorem d_Code_digitOf_17 : decode b_Code_digitOf 17 = .ok (.bipush 48, 2) := by decide +kernel
theorem d_Code_digitOf_19 : decode b_Code_digitOf 19 = .ok (.iload_n 1, 1) := by decide +kernel
theorem d_Code_digitOf_20 : decode b_Code_digitOf 20 = .ok (.iconst 1, 1) := by decide +kernel
theorem d_Code_digitOf_21 : decode b_Code_digitOf 21 = .ok (.iadd, 1) := by decide +kernel
theorem d_Code_digitOf_22 : decode b_Code_digitOf 22 = .ok (.bipush 10, 2) := by decide +kernel
theorem d_Code_digitOf_24 : decode b_Code_digitOf 24 = .ok (.irem, 1) := by decide +kernel
theorem d_Code_digitOf_25 : decode b_Code_digitOf 25 = .ok (.iadd, 1) := by decide +kernel
theorem d_Code_digitOf_26 : decode b_Code_digitOf 26 = .ok (.i2c, 1) := by decide +kernel
theorem d_Code_digitOf_27 : decode b_Code_digitOf 27 = .ok (.ireturn, 1) := by decide +kernel
theorem d_Code_digitOf_28 : decode b_Code_digitOf 28 = .ok (.iinc 1 1, 3) := by decide +kernel
theorem d_Code_digitOf_31 : decode b_Code_digitOf 31 = .ok (.goto (-29), 3) := by decide +kernel
theorem d_Code_digitOf_34 : decode b_Code_digitOf 34 = .ok (.bipush 35, 2) := by decide +kernel
theorem d_Code_digitOf_36 : decode b_Code_digitOf 36 = .ok (.ireturn, 1) := by decide +kernel
theorem d_Code_characterOf_0 : decode b_Code_characterOf 0 = .ok (.iconst 0, 1) := by decide +kernel
theorem d_Code_characterOf_1 : decode b_Code_characterOf 1 = .ok (.istore_n 1, 1) := by decide +kernel
theorem d_Code_characterOf_2 : decode b_Code_characterOf 2 = .ok (.iload_n 1, 1) := by decide +kernel
theorem d_Code_characterOf_3 : decode b_Code_characterOf 3 = .ok (.getstatic 32, 3) := by decide +kernel
theorem d_Code_characterOf_6 : decode b_Code_characterOf 6 = .ok (.arraylength, 1) := by decide +kernel
theorem d_Code_characterOf_7 : decode b_Code_characterOf 7 = .ok (.if_icmp .ge 24, 3) := by decide +kernel
theorem d_Code_characterOf_10 : decode b_Code_characterOf 10 = .ok (.getstatic 32, 3) := by decide +kernel
theorem d_Code_characterOf_13 : decode b_Code_characterOf 13 = .ok (.iload_n 1, 1) := by decide +kernel
theorem d_Code_characterOf_14 : decode b_Code_characterOf 14 = .ok (.iaload, 1) := by decide +kernel
theorem d_Code_characterOf_15 : decode b_Code_characterOf 15 = .ok (.iload_n 0, 1) := by decide +kernel
theorem d_Code_characterOf_16 : decode b_Code_characterOf 16 = .ok (.if_icmp .ne 9, 3) := by decide +kernel
theorem d_Code_characterOf_19 : decode b_Code_characterOf 19 = .ok (.bipush 97, 2) := by decide +kernel
theorem d_Code_characterOf_21 : decode b_Code_characterOf 21 = .ok (.iload_n 1, 1) := by decide +kernel
theorem d_Code_characterOf_22 : decode b_Code_characterOf 22 = .ok (.iadd, 1) := by decide +kernel
theorem d_Code_characterOf_23 : decode b_Code_characterOf 23 = .ok (.i2c, 1) := by decide +kernel
theorem d_Code_characterOf_24 : decode b_Code_characterOf 24 = .ok (.ireturn, 1) := by decide +kernel
theorem d_Code_characterOf_25 : decode b_Code_characterOf 25 = .ok (.iinc 1 1, 3) := by decide +kernel
theorem d_Code_characterOf_28 : decode b_Code_characterOf 28 = .ok (.goto (-26), 3) := by decide +kernel
theorem d_Code_characterOf_31 : decode b_Code_characterOf 31 = .ok (.iconst 0, 1) := by decide +kernel
theorem d_Code_characterOf_32 : decode b_Code_characterOf 32 = .ok (.istore_n 1, 1) := by decide +kernel
theorem d_Code_characterOf_33 : decode b_Code_characterOf 33 = .ok (.iload_n 1, 1) := by decide +kernel
theorem d_Code_characterOf_34 : decode b_Code_characterOf 34 = .ok (.getstatic 40, 3) := by decide +kernel
theorem d_Code_characterOf_37 : decode b_Code_characterOf 37 = .ok (.arraylength, 1) := by decide +kernel
theorem d_Code_characterOf_38 : decode b_Code_characterOf 38 = .ok (.if_icmp .ge 25, 3) := by decide +kernel
theorem d_Code_characterOf_41 : decode b_Code_characterOf 41 = .ok (.getstatic 40, 3) := by decide +kernel
theorem d_Code_characterOf_44 : decode b_Code_characterOf 44 = .ok (.iload_n 1, 1) := by decide +kernel
theorem d_Code_characterOf_45 : decode b_Code_characterOf 45 = .ok (.iaload, 1) := by decide +kernel
theorem d_Code_characterOf_46 : decode b_Code_characterOf 46 = .ok (.iload_n 0, 1) := by decide +kernel
theorem d_Code_characterOf_47 : decode b_Code_characterOf 47 = .ok (.if_icmp .ne 10, 3) := by decide +kernel
theorem d_Code_characterOf_50 : decode b_Code_characterOf 50 = .ok (.ldc 24, 2) := by decide +kernel
theorem d_Code_characterOf_52 : decode b_Code_characterOf 52 = .ok (.iload_n 1, 1) := by decide +kernel
theorem d_Code_characterOf_53 : decode b_Code_characterOf 53 = .ok (.invokevirtual 43, 3) := by decide +kernel
theorem d_Code_characterOf_56 : decode b_Code_characterOf 56 = .ok (.ireturn, 1) := by decide +kernel
theorem d_Code_characterOf_57 : decode b_Code_characterOf 57 = .ok (.iinc 1 1, 3) := by decide +kernel
theorem d_Code_characterOf_60 : decode b_Code_characterOf 60 = .ok (.goto (-27), 3) := by decide +kernel
theorem d_Code_characterOf_63 : decode b_Code_characterOf 63 = .ok (.bipush 35, 2) := by decide +kernel
theorem d_Code_characterOf_65 : decode b_Code_characterOf 65 = .ok (.ireturn, 1) := by decide +kernel
theorem d_Reader_init_0 : decode b_Reader_init 0 = .ok (.aload_n 0, 1) := by decide +kernel
theorem d_Reader_init_1 : decode b_Reader_init 1 = .ok (.invokespecial 3, 3) := by decide +kernel
theorem d_Reader_init_4 : decode b_Reader_init 4 = .ok (.aload_n 0, 1) := by decide +kernel
theorem d_Reader_init_5 : decode b_Reader_init 5 = .ok (.sipush 1200, 3) := by decide +kernel
theorem d_Reader_init_8 : decode b_Reader_init 8 = .ok (.newarray .char, 2) := by decide +kernel
theorem d_Reader_init_10 : decode b_Reader_init 10 = .ok (.putfield 9, 3) := by decide +kernel
theorem d_Reader_init_13 : decode b_Reader_init 13 = .ok (.aload_n 0, 1) := by decide +kernel
theorem d_Reader_init_14 : decode b_Reader_init 14 = .ok (.aload_n 1, 1) := by decide +kernel
theorem d_Reader_init_15 : decode b_Reader_init 15 = .ok (.putfield 15, 3) := by decide +kernel
theorem d_Reader_init_18 : decode b_Reader_init 18 = .ok (.return_, 1) := by decide +kernel
theorem d_Reader_readBlock_0 : decode b_Reader_readBlock 0 = .ok (.aload_n 0, 1) := by decide +kernel
theorem d_Reader_readBlock_1 : decode b_Reader_readBlock 1 = .ok (.iconst 0, 1) := by decide +kernel
theorem d_Reader_readBlock_2 : decode b_Reader_readBlock 2 = .ok (.putfield 19, 3) := by decide +kernel
theorem d_Reader_readBlock_5 : decode b_Reader_readBlock 5 = .ok (.iconst 0, 1) := by decide +kernel
theorem d_Reader_readBlock_6 : decode b_Reader_readBlock 6 = .ok (.istore_n 2, 1) := by decide +kernel
theorem d_Reader_readBlock_7 : decode b_Reader_readBlock 7 = .ok (.iload_n 2, 1) := by decide +kernel
theorem d_Reader_readBlock_8 : decode b_Reader_readBlock 8 = .ok (.aload_n 1, 1) := by decide +kernel
theorem d_Reader_readBlock_9 : decode b_Reader_readBlock 9 = .ok (.getfield 23, 3) := by decide +kernel
theorem d_Reader_readBlock_12 : decode b_Reader_readBlock 12 = .ok (.if_icmp .ge 42, 3) := by decide +kernel
theorem d_Reader_readBlock_15 : decode b_Reader_readBlock 15 = .ok (.aload_n 1, 1) := by decide +kernel
theorem d_Reader_readBlock_16 : decode b_Reader_readBlock 16 = .ok (.iload_n 2, 1) := by decide +kernel
theorem d_Reader_readBlock_17 : decode b_Reader_readBlock 17 = .ok (.invokevirtual 26, 3) := by decide +kernel
theorem d_Reader_readBlock_20 : decode b_Reader_readBlock 20 = .ok (.ifCond .ne 12, 3) := by decide +kernel
theorem d_Reader_readBlock_23 : decode b_Reader_readBlock 23 = .ok (.aload_n 0, 1) := by decide +kernel
theorem d_Reader_readBlock_24 : decode b_Reader_readBlock 24 = .ok (.bipush 32, 2) := by decide +kernel
theorem d_Reader_readBlock_26 : decode b_Reader_readBlock 26 = .ok (.invokevirtual 30, 3) := by decide +kernel
theorem d_Reader_readBlock_29 : decode b_Reader_readBlock 29 = .ok (.goto 19, 3) := by decide +kernel
theorem d_Reader_readBlock_32 : decode b_Reader_readBlock 32 = .ok (.aload_n 1, 1) := by decide +kernel
theorem d_Reader_readBlock_33 : decode b_Reader_readBlock 33 = .ok (.iload_n 2, 1) := by decide +kernel
theorem d_Reader_readBlock_34 : decode b_Reader_readBlock 34 = .ok (.iconst 1, 1) := by decide +kernel
theorem d_Reader_readBlock_35 : decode b_Reader_readBlock 35 = .ok (.isub, 1) := by decide +kernel
theorem d_Reader_readBlock_36 : decode b_Reader_readBlock 36 = .ok (.invokevirtual 26, 3) := by decide +kernel
theorem d_Reader_readBlock_39 : decode b_Reader_readBlock 39 = .ok (.ifCond .ne 9, 3) := by decide +kernel
theorem d_Reader_readBlock_42 : decode b_Reader_readBlock 42 = .ok (.aload_n 0, 1) := by decide +kernel
theorem d_Reader_readBlock_43 : decode b_Reader_readBlock 43 = .ok (.aload_n 1, 1) := by decide +kernel
theorem d_Reader_readBlock_44 : decode b_Reader_readBlock 44 = .ok (.iload_n 2, 1) := by decide +kernel
theorem d_Reader_readBlock_45 : decode b_Reader_readBlock 45 = .ok (.invokevirtual 34, 3) := by decide +kernel
theorem d_Reader_readBlock_48 : decode b_Reader_readBlock 48 = .ok (.iinc 2 1, 3) := by decide +kernel
theorem d_Reader_readBlock_51 : decode b_Reader_readBlock 51 = .ok (.goto (-44), 3) := by decide +kernel
theorem d_Reader_readBlock_54 : decode b_Reader_readBlock 54 = .ok (.return_, 1) := by decide +kernel
theorem d_Reader_readPiece_0 : decode b_Reader_readPiece 0 = .ok (.aload_n 0, 1) := by decide +kernel
theorem d_Reader_readPiece_1 : decode b_Reader_readPiece 1 = .ok (.iload_n 2, 1) := by decide +kernel
theorem d_Reader_readPiece_2 : decode b_Reader_readPiece 2 = .ok (.aload_n 1, 1) := by decide +kernel
theorem d_Reader_readPiece_3 : decode b_Reader_readPiece 3 = .ok (.iload_n 2, 1) := by decide +kernel
theorem d_Reader_readPiece_4 : decode b_Reader_readPiece 4 = .ok (.invokestatic 38, 3) := by decide +kernel
theorem d_Reader_readPiece_7 : decode b_Reader_readPiece 7 = .ok (.iadd, 1) := by decide +kernel
theorem d_Reader_readPiece_8 : decode b_Reader_readPiece 8 = .ok (.putfield 42, 3) := by decide +kernel
theorem d_Reader_readPiece_11 : decode b_Reader_readPiece 11 = .ok (.aload_n 0, 1) := by decide +kernel
theorem d_Reader_readPiece_12 : decode b_Reader_readPiece 12 = .ok (.aload_n 1, 1) := by decide +kernel
theorem d_Reader_readPiece_13 : decode b_Reader_readPiece 13 = .ok (.iload_n 2, 1) := by decide +kernel
theorem d_Reader_readPiece_14 : decode b_Reader_readPiece 14 = .ok (.invokevirtual 45, 3) := by decide +kernel
theorem d_Reader_readPiece_17 : decode b_Reader_readPiece 17 = .ok (.putfield 48, 3) := by decide +kernel
theorem d_Reader_readPiece_20 : decode b_Reader_readPiece 20 = .ok (.aload_n 0, 1) := by decide +kernel
theorem d_Reader_readPiece_21 : decode b_Reader_readPiece 21 = .ok (.iconst 0, 1) := by decide +kernel
theorem d_Reader_readPiece_22 : decode b_Reader_readPiece 22 = .ok (.putfield 51, 3) := by decide +kernel
theorem d_Reader_readPiece_25 : decode b_Reader_readPiece 25 = .ok (.aload_n 0, 1) := by decide +kernel
theorem d_Reader_readPiece_26 : decode b_Reader_readPiece 26 = .ok (.iconst 0, 1) := by decide +kernel
theorem d_Reader_readPiece_27 : decode b_Reader_readPiece 27 = .ok (.putfield 55, 3) := by decide +kernel
theorem d_Reader_readPiece_30 : decode b_Reader_readPiece 30 = .ok (.aload_n 0, 1) := by decide +kernel
theorem d_Reader_readPiece_31 : decode b_Reader_readPiece 31 = .ok (.iconst 0, 1) := by decide +kernel
theorem d_Reader_readPiece_32 : decode b_Reader_readPiece 32 = .ok (.putfield 58, 3) := by decide +kernel
theorem d_Reader_readPiece_35 : decode b_Reader_readPiece 35 = .ok (.iload_n 2, 1) := by decide +kernel
theorem d_Reader_readPiece_36 : decode b_Reader_readPiece 36 = .ok (.istore_n 3, 1) := by decide +kernel
theorem d_Reader_readPiece_37 : decode b_Reader_readPiece 37 = .ok (.iload_n 2, 1) := by decide +kernel
theorem d_Reader_readPiece_38 : decode b_Reader_readPiece 38 = .ok (.istore 4, 2) := by decide +kernel
theorem d_Reader_readPiece_40 : decode b_Reader_readPiece 40 = .ok (.iload 4, 2) := by decide +kernel
theorem d_Reader_readPiece_42 : decode b_Reader_readPiece 42 = .ok (.aload_n 0, 1) := by decide +kernel
theorem d_Reader_readPiece_43 : decode b_Reader_readPiece 43 = .ok (.getfield 48, 3) := by decide +kernel
theorem d_Reader_readPiece_46 : decode b_Reader_readPiece 46 = .ok (.if_icmp .ge 26, 3) := by decide +kernel
theorem d_Reader_readPiece_49 : decode b_Reader_readPiece 49 = .ok (.iload 4, 2) := by decide +kernel
theorem d_Reader_readPiece_51 : decode b_Reader_readPiece 51 = .ok (.iload_n 3, 1) := by decide +kernel
theorem d_Reader_readPiece_52 : decode b_Reader_readPiece 52 = .ok (.if_icmp .ne 14, 3) := by decide +kernel
theorem d_Reader_readPiece_55 : decode b_Reader_readPiece 55 = .ok (.iload 4, 2) := by decide +kernel
theorem d_Reader_readPiece_57 : decode b_Reader_readPiece 57 = .ok (.aload_n 0, 1) := by decide +kernel
theorem d_Reader_readPiece_58 : decode b_Reader_readPiece 58 = .ok (.aload_n 1, 1) := by decide +kernel
theorem d_Reader_readPiece_59 : decode b_Reader_readPiece 59 = .ok (.iload 4, 2) := by decide +kernel
theorem d_Reader_readPiece_61 : decode b_Reader_readPiece 61 = .ok (.invokevirtual 61, 3) := by decide +kernel
theorem d_Reader_readPiece_64 : decode b_Reader_readPiece 64 = .ok (.iadd, 1) := by decide +kernel
theorem d_Reader_readPiece_65 : decode b_Reader_readPiece 65 = .ok (.istore_n 3, 1) := by decide +kernel
theorem d_Reader_readPiece_66 : decode b_Reader_readPiece 66 = .ok (.iinc 4 1, 3) := by decide +kernel
theorem d_Reader_readPiece_69 : decode b_Reader_readPiece 69 = .ok (.goto (-29), 3) := by decide +kernel
theorem d_Reader_readPiece_72 : decode b_Reader_readPiece 72 = .ok (.return_, 1) := by decide +kernel
theorem d_Reader_readCellsAt_0 : decode b_Reader_readCellsAt 0 = .ok (.aload_n 1, 1) := by decide +kernel
theorem d_Reader_readCellsAt_1 : decode b_Reader_readCellsAt 1 = .ok (.iload_n 2, 1) := by decide +kernel
theorem d_Reader_readCellsAt_2 : decode b_Reader_readCellsAt 2 = .ok (.invokevirtual 26, 3) := by decide +kernel
theorem d_Reader_readCellsAt_5 : decode b_Reader_readCellsAt 5 = .ok (.istore_n 3, 1) := by decide +kernel
theorem d_Reader_readCellsAt_6 : decode b_Reader_readCellsAt 6 = .ok (.aload_n 0, 1) := by decide +kernel
theorem d_Reader_readCellsAt_7 : decode b_Reader_readCellsAt 7 = .ok (.getfield 51, 3) := by decide +kernel
theorem d_Reader_readCellsAt_10 : decode b_Reader_readCellsAt 10 = .ok (.ifCond .eq 22, 3) := by decide +kernel
theorem d_Reader_readCellsAt_13 : decode b_Reader_readCellsAt 13 = .ok (.iload_n 3, 1) := by decide +kernel
theorem d_Reader_readCellsAt_14 : decode b_Reader_readCellsAt 14 = .ok (.invokestatic 64, 3) := by decide +kernel
theorem d_Reader_readCellsAt_17 : decode b_Reader_readCellsAt 17 = .ok (.bipush 35, 2) := by decide +kernel
theorem d_Reader_readCellsAt_19 : decode b_Reader_readCellsAt 19 = .ok (.if_icmp .eq 13, 3) := by decide +kernel
theorem d_Reader_readCellsAt_22 : decode b_Reader_readCellsAt 22 = .ok (.aload_n 0, 1) := by decide +kernel
theorem d_Reader_readCellsAt_23 : decode b_Reader_readCellsAt 23 = .ok (.iload_n 3, 1) := by decide +kernel
theorem d_Reader_readCellsAt_24 : decode b_Reader_readCellsAt 24 = .ok (.invokestatic 64, 3) := by decide +kernel
theorem d_Reader_readCellsAt_27 : decode b_Reader_readCellsAt 27 = .ok (.invokevirtual 30, 3) := by decide +kernel
theorem d_Reader_readCellsAt_30 : decode b_Reader_readCellsAt 30 = .ok (.iconst 1, 1) := by decide +kernel
theorem d_Reader_readCellsAt_31 : decode b_Reader_readCellsAt 31 = .ok (.ireturn, 1) := by decide +kernel
theorem d_Reader_readCellsAt_32 : decode b_Reader_readCellsAt 32 = .ok (.aload_n 0, 1) := by decide +kernel
theorem d_Reader_readCellsAt_33 : decode b_Reader_readCellsAt 33 = .ok (.iload_n 3, 1) := by decide +kernel
theorem d_Reader_readCellsAt_34 : decode b_Reader_readCellsAt 34 = .ok (.bipush 60, 2) := by decide +kernel
theorem d_Reader_readCellsAt_36 : decode b_Reader_readCellsAt 36 = .ok (.if_icmp .ne 7, 3) := by decide +kernel
theorem d_Reader_readCellsAt_39 : decode b_Reader_readCellsAt 39 = .ok (.iconst 1, 1) := by decide +kernel
theorem d_Reader_readCellsAt_40 : decode b_Reader_readCellsAt 40 = .ok (.goto 4, 3) := by decide +kernel
theorem d_Reader_readCellsAt_43 : decode b_Reader_readCellsAt 43 = .ok (.iconst 0, 1) := by decide +kernel
theorem d_Reader_readCellsAt_44 : decode b_Reader_readCellsAt 44 = .ok (.putfield 51, 3) := by decide +kernel
theorem d_Reader_readCellsAt_47 : decode b_Reader_readCellsAt 47 = .ok (.iload_n 3, 1) := by decide +kernel
theorem d_Reader_readCellsAt_48 : decode b_Reader_readCellsAt 48 = .ok (.bipush 60, 2) := by decide +kernel
theorem d_Reader_readCellsAt_50 : decode b_Reader_readCellsAt 50 = .ok (.if_icmp .eq 9, 3) := by decide +kernel
theorem d_Reader_readCellsAt_53 : decode b_Reader_readCellsAt 53 = .ok (.iload_n 3, 1) := by decide +kernel
theorem d_Reader_readCellsAt_54 : decode b_Reader_readCellsAt 54 = .ok (.bipush 48, 2) := by decide +kernel
theorem d_Reader_readCellsAt_56 : decode b_Reader_readCellsAt 56 = .ok (.if_icmp .ne 5, 3) := by decide +kernel
theorem d_Reader_readCellsAt_59 : decode b_Reader_readCellsAt 59 = .ok (.iconst 1, 1) := by decide +kernel
theorem d_Reader_readCellsAt_60 : decode b_Reader_readCellsAt 60 = .ok (.ireturn, 1) := by decide +kernel
theorem d_Reader_readCellsAt_61 : decode b_Reader_readCellsAt 61 = .ok (.iload_n 3, 1) := by decide +kernel
theorem d_Reader_readCellsAt_62 : decode b_Reader_readCellsAt 62 = .ok (.bipush 32, 2) := by decide +kernel
theorem d_Reader_readCellsAt_64 : decode b_Reader_readCellsAt 64 = .ok (.if_icmp .ne 10, 3) := by decide +kernel
theorem d_Reader_readCellsAt_67 : decode b_Reader_readCellsAt 67 = .ok (.aload_n 0, 1) := by decide +kernel
theorem d_Reader_readCellsAt_68 : decode b_Reader_readCellsAt 68 = .ok (.aload_n 1, 1) := by decide +kernel
theorem d_Reader_readCellsAt_69 : decode b_Reader_readCellsAt 69 = .ok (.iload_n 2, 1) := by decide +kernel
theorem d_Reader_readCellsAt_70 : decode b_Reader_readCellsAt 70 = .ok (.invokevirtual 70, 3) := by decide +kernel
theorem d_Reader_readCellsAt_73 : decode b_Reader_readCellsAt 73 = .ok (.ireturn, 1) := by decide +kernel
theorem d_Reader_readCellsAt_74 : decode b_Reader_readCellsAt 74 = .ok (.aload_n 0, 1) := by decide +kernel
theorem d_Reader_readCellsAt_75 : decode b_Reader_readCellsAt 75 = .ok (.aload_n 1, 1) := by decide +kernel
theorem d_Reader_readCellsAt_76 : decode b_Reader_readCellsAt 76 = .ok (.iload_n 2, 1) := by decide +kernel
theorem d_Reader_readCellsAt_77 : decode b_Reader_readCellsAt 77 = .ok (.invokevirtual 73, 3) := by decide +kernel
theorem d_Reader_readCellsAt_80 : decode b_Reader_readCellsAt 80 = .ok (.astore 4, 2) := by decide +kernel
theorem d_Reader_readCellsAt_82 : decode b_Reader_readCellsAt 82 = .ok (.aload 4, 2) := by decide +kernel
theorem d_Reader_readCellsAt_84 : decode b_Reader_readCellsAt 84 = .ok (.ifnonnull 13, 3) := by decide +kernel
theorem d_Reader_readCellsAt_87 : decode b_Reader_readCellsAt 87 = .ok (.aload_n 0, 1) := by decide +kernel
theorem d_Reader_readCellsAt_88 : decode b_Reader_readCellsAt 88 = .ok (.iload_n 3, 1) := by decide +kernel
theorem d_Reader_readCellsAt_89 : decode b_Reader_readCellsAt 89 = .ok (.invokestatic 77, 3) := by decide +kernel
theorem d_Reader_readCellsAt_92 : decode b_Reader_readCellsAt 92 = .ok (.invokevirtual 80, 3) := by decide +kernel
theorem d_Reader_readCellsAt_95 : decode b_Reader_readCellsAt 95 = .ok (.iconst 1, 1) := by decide +kernel
theorem d_Reader_readCellsAt_96 : decode b_Reader_readCellsAt 96 = .ok (.ireturn, 1) := by decide +kernel
theorem d_Reader_readCellsAt_97 : decode b_Reader_readCellsAt 97 = .ok (.iconst 0, 1) := by decide +kernel
theorem d_Reader_readCellsAt_98 : decode b_Reader_readCellsAt 98 = .ok (.istore 5, 2) := by decide +kernel
theorem d_Reader_readCellsAt_100 : decode b_Reader_readCellsAt 100 = .ok (.iload 5, 2) := by decide +kernel
theorem d_Reader_readCellsAt_102 : decode b_Reader_readCellsAt 102 = .ok (.aload 4, 2) := by decide +kernel
theorem d_Reader_readCellsAt_104 : decode b_Reader_readCellsAt 104 = .ok (.getfield 83, 3) := by decide +kernel
theorem d_Reader_readCellsAt_107 : decode b_Reader_readCellsAt 107 = .ok (.if_icmp .ge 21, 3) := by decide +kernel
theorem d_Reader_readCellsAt_110 : decode b_Reader_readCellsAt 110 = .ok (.aload_n 0, 1) := by decide +kernel
theorem d_Reader_readCellsAt_111 : decode b_Reader_readCellsAt 111 = .ok (.aload 4, 2) := by decide +kernel
theorem d_Reader_readCellsAt_113 : decode b_Reader_readCellsAt 113 = .ok (.getfield 88, 3) := by decide +kernel
theorem d_Reader_readCellsAt_116 : decode b_Reader_readCellsAt 116 = .ok (.iload 5, 2) := by decide +kernel
theorem d_Reader_readCellsAt_118 : decode b_Reader_readCellsAt 118 = .ok (.caload, 1) := by decide +kernel
theorem d_Reader_readCellsAt_119 : decode b_Reader_readCellsAt 119 = .ok (.invokevirtual 80, 3) := by decide +kernel
theorem d_Reader_readCellsAt_122 : decode b_Reader_readCellsAt 122 = .ok (.iinc 5 1, 3) := by decide +kernel
theorem d_Reader_readCellsAt_125 : decode b_Reader_readCellsAt 125 = .ok (.goto (-25), 3) := by decide +kernel
theorem d_Reader_readCellsAt_128 : decode b_Reader_readCellsAt 128 = .ok (.aload 4, 2) := by decide +kernel
theorem d_Reader_readCellsAt_130 : decode b_Reader_readCellsAt 130 = .ok (.getfield 91, 3) := by decide +kernel
theorem d_Reader_readCellsAt_133 : decode b_Reader_readCellsAt 133 = .ok (.ireturn, 1) := by decide +kernel
theorem d_Reader_passCapitalSigns_0 : decode b_Reader_passCapitalSigns 0 = .ok (.aload_n 1, 1) := by decide +kernel
theorem d_Reader_passCapitalSigns_1 : decode b_Reader_passCapitalSigns 1 = .ok (.iload_n 2, 1) := by decide +kernel
theorem d_Reader_passCapitalSigns_2 : decode b_Reader_passCapitalSigns 2 = .ok (.invokestatic 38, 3) := by decide +kernel
theorem d_Reader_passCapitalSigns_5 : decode b_Reader_passCapitalSigns 5 = .ok (.istore_n 3, 1) := by decide +kernel
theorem d_Reader_passCapitalSigns_6 : decode b_Reader_passCapitalSigns 6 = .ok (.iload_n 3, 1) := by decide +kernel
theorem d_Reader_passCapitalSigns_7 : decode b_Reader_passCapitalSigns 7 = .ok (.iconst 1, 1) := by decide +kernel
theorem d_Reader_passCapitalSigns_8 : decode b_Reader_passCapitalSigns 8 = .ok (.if_icmp .ne 11, 3) := by decide +kernel
theorem d_Reader_passCapitalSigns_11 : decode b_Reader_passCapitalSigns 11 = .ok (.aload_n 0, 1) := by decide +kernel
theorem d_Reader_passCapitalSigns_12 : decode b_Reader_passCapitalSigns 12 = .ok (.iconst 1, 1) := by decide +kernel
theorem d_Reader_passCapitalSigns_13 : decode b_Reader_passCapitalSigns 13 = .ok (.putfield 55, 3) := by decide +kernel
theorem d_Reader_passCapitalSigns_16 : decode b_Reader_passCapitalSigns 16 = .ok (.goto 8, 3) := by decide +kernel
theorem d_Reader_passCapitalSigns_19 : decode b_Reader_passCapitalSigns 19 = .ok (.aload_n 0, 1) := by decide +kernel
theorem d_Reader_passCapitalSigns_20 : decode b_Reader_passCapitalSigns 20 = .ok (.iconst 1, 1) := by decide +kernel
theorem d_Reader_passCapitalSigns_21 : decode b_Reader_passCapitalSigns 21 = .ok (.putfield 58, 3) := by decide +kernel
theorem d_Reader_passCapitalSigns_24 : decode b_Reader_passCapitalSigns 24 = .ok (.iload_n 3, 1) := by decide +kernel
theorem d_Reader_passCapitalSigns_25 : decode b_Reader_passCapitalSigns 25 = .ok (.ireturn, 1) := by decide +kernel
theorem d_Reader_capitalSignsAt_0 : decode b_Reader_capitalSignsAt 0 = .ok (.iconst 0, 1) := by decide +kernel
theorem d_Reader_capitalSignsAt_1 : decode b_Reader_capitalSignsAt 1 = .ok (.istore_n 2, 1) := by decide +kernel
theorem d_Reader_capitalSignsAt_2 : decode b_Reader_capitalSignsAt 2 = .ok (.iload_n 1, 1) := by decide +kernel
theorem d_Reader_capitalSignsAt_3 : decode b_Reader_capitalSignsAt 3 = .ok (.istore_n 3, 1) := by decide +kernel
theorem d_Reader_capitalSignsAt_4 : decode b_Reader_capitalSignsAt 4 = .ok (.iload_n 3, 1) := by decide +kernel
theorem d_Reader_capitalSignsAt_5 : decode b_Reader_capitalSignsAt 5 = .ok (.aload_n 0, 1) := by decide +kernel
theorem d_Reader_capitalSignsAt_6 : decode b_Reader_capitalSignsAt 6 = .ok (.getfield 23, 3) := by decide +kernel
theorem d_Reader_capitalSignsAt_9 : decode b_Reader_capitalSignsAt 9 = .ok (.if_icmp .ge 22, 3) := by decide +kernel
theorem d_Reader_capitalSignsAt_12 : decode b_Reader_capitalSignsAt 12 = .ok (.aload_n 0, 1) := by decide +kernel
theorem d_Reader_capitalSignsAt_13 : decode b_Reader_capitalSignsAt 13 = .ok (.iload_n 3, 1) := by decide +kernel
theorem d_Reader_capitalSignsAt_14 : decode b_Reader_capitalSignsAt 14 = .ok (.invokevirtual 26, 3) := by decide +kernel
theorem d_Reader_capitalSignsAt_17 : decode b_Reader_capitalSignsAt 17 = .ok (.bipush 32, 2) := by decide +kernel
theorem d_Reader_capitalSignsAt_19 : decode b_Reader_capitalSignsAt 19 = .ok (.if_icmp .ne 12, 3) := by decide +kernel
theorem d_Reader_capitalSignsAt_22 : decode b_Reader_capitalSignsAt 22 = .ok (.iinc 2 1, 3) := by decide +kernel
theorem d_Reader_capitalSignsAt_25 : decode b_Reader_capitalSignsAt 25 = .ok (.iinc 3 1, 3) := by decide +kernel
theorem d_Reader_capitalSignsAt_28 : decode b_Reader_capitalSignsAt 28 = .ok (.goto (-24), 3) := by decide +kernel
theorem d_Reader_capitalSignsAt_31 : decode b_Reader_capitalSignsAt 31 = .ok (.iload_n 2, 1) := by decide +kernel
theorem d_Reader_capitalSignsAt_32 : decode b_Reader_capitalSignsAt 32 = .ok (.ireturn, 1) := by decide +kernel
theorem d_Reader_ruleAt_0 : decode b_Reader_ruleAt 0 = .ok (.aconst_null, 1) := by decide +kernel
theorem d_Reader_ruleAt_1 : decode b_Reader_ruleAt 1 = .ok (.astore_n 3, 1) := by decide +kernel
theorem d_Reader_ruleAt_2 : decode b_Reader_ruleAt 2 = .ok (.iconst 0, 1) := by decide +kernel
theorem d_Reader_ruleAt_3 : decode b_Reader_ruleAt 3 = .ok (.istore 4, 2) := by decide +kernel
theorem d_Reader_ruleAt_5 : decode b_Reader_ruleAt 5 = .ok (.iload 4, 2) := by decide +kernel
theorem d_Reader_ruleAt_7 : decode b_Reader_ruleAt 7 = .ok (.aload_n 0, 1) := by decide +kernel
theorem d_Reader_ruleAt_8 : decode b_Reader_ruleAt 8 = .ok (.getfield 15, 3) := by decide +kernel
theorem d_Reader_ruleAt_11 : decode b_Reader_ruleAt 11 = .ok (.getfield 94, 3) := by decide +kernel
theorem d_Reader_ruleAt_14 : decode b_Reader_ruleAt 14 = .ok (.if_icmp .ge 87, 3) := by decide +kernel
theorem d_Reader_ruleAt_17 : decode b_Reader_ruleAt 17 = .ok (.aload_n 0, 1) := by decide +kernel
theorem d_Reader_ruleAt_18 : decode b_Reader_ruleAt 18 = .ok (.getfield 15, 3) := by decide +kernel
theorem d_Reader_ruleAt_21 : decode b_Reader_ruleAt 21 = .ok (.getfield 97, 3) := by decide +kernel
theorem d_Reader_ruleAt_24 : decode b_Reader_ruleAt 24 = .ok (.iload 4, 2) := by decide +kernel
theorem d_Reader_ruleAt_26 : decode b_Reader_ruleAt 26 = .ok (.aaload, 1) := by decide +kernel
theorem d_Reader_ruleAt_27 : decode b_Reader_ruleAt 27 = .ok (.astore 5, 2) := by decide +kernel
theorem d_Reader_ruleAt_29 : decode b_Reader_ruleAt 29 = .ok (.aload 5, 2) := by decide +kernel
theorem d_Reader_ruleAt_31 : decode b_Reader_ruleAt 31 = .ok (.aload_n 1, 1) := by decide +kernel
theorem d_Reader_ruleAt_32 : decode b_Reader_ruleAt 32 = .ok (.iload_n 2, 1) := by decide +kernel
theorem d_Reader_ruleAt_33 : decode b_Reader_ruleAt 33 = .ok (.invokevirtual 100, 3) := by decide +kernel
theorem d_Reader_ruleAt_36 : decode b_Reader_ruleAt 36 = .ok (.ifCond .eq 59, 3) := by decide +kernel
theorem d_Reader_ruleAt_39 : decode b_Reader_ruleAt 39 = .ok (.aload 5, 2) := by decide +kernel
theorem d_Reader_ruleAt_41 : decode b_Reader_ruleAt 41 = .ok (.iload_n 2, 1) := by decide +kernel
theorem d_Reader_ruleAt_42 : decode b_Reader_ruleAt 42 = .ok (.aload_n 0, 1) := by decide +kernel
theorem d_Reader_ruleAt_43 : decode b_Reader_ruleAt 43 = .ok (.getfield 42, 3) := by decide +kernel
theorem d_Reader_ruleAt_46 : decode b_Reader_ruleAt 46 = .ok (.if_icmp .ne 7, 3) := by decide +kernel
theorem d_Reader_ruleAt_49 : decode b_Reader_ruleAt 49 = .ok (.iconst 1, 1) := by decide +kernel
theorem d_Reader_ruleAt_50 : decode b_Reader_ruleAt 50 = .ok (.goto 4, 3) := by decide +kernel
theorem d_Reader_ruleAt_53 : decode b_Reader_ruleAt 53 = .ok (.iconst 0, 1) := by decide +kernel
theorem d_Reader_ruleAt_54 : decode b_Reader_ruleAt 54 = .ok (.iload_n 2, 1) := by decide +kernel
theorem d_Reader_ruleAt_55 : decode b_Reader_ruleAt 55 = .ok (.aload 5, 2) := by decide +kernel
theorem d_Reader_ruleAt_57 : decode b_Reader_ruleAt 57 = .ok (.getfield 91, 3) := by decide +kernel
theorem d_Reader_ruleAt_60 : decode b_Reader_ruleAt 60 = .ok (.iadd, 1) := by decide +kernel
theorem d_Reader_ruleAt_61 : decode b_Reader_ruleAt 61 = .ok (.aload_n 0, 1) := by decide +kernel
theorem d_Reader_ruleAt_62 : decode b_Reader_ruleAt 62 = .ok (.getfield 48, 3) := by decide +kernel
theorem d_Reader_ruleAt_65 : decode b_Reader_ruleAt 65 = .ok (.if_icmp .ne 7, 3) := by decide +kernel
theorem d_Reader_ruleAt_68 : decode b_Reader_ruleAt 68 = .ok (.iconst 1, 1) := by decide +kernel
theorem d_Reader_ruleAt_69 : decode b_Reader_ruleAt 69 = .ok (.goto 4, 3) := by decide +kernel
theorem d_Reader_ruleAt_72 : decode b_Reader_ruleAt 72 = .ok (.iconst 0, 1) := by decide +kernel
theorem d_Reader_ruleAt_73 : decode b_Reader_ruleAt 73 = .ok (.invokevirtual 104, 3) := by decide +kernel
theorem d_Reader_ruleAt_76 : decode b_Reader_ruleAt 76 = .ok (.ifCond .eq 19, 3) := by decide +kernel
theorem d_Reader_ruleAt_79 : decode b_Reader_ruleAt 79 = .ok (.aload_n 3, 1) := by decide +kernel
theorem d_Reader_ruleAt_80 : decode b_Reader_ruleAt 80 = .ok (.ifnull 12, 3) := by decide +kernel
theorem d_Reader_ruleAt_83 : decode b_Reader_ruleAt 83 = .ok (.aload 5, 2) := by decide +kernel
theorem d_Reader_ruleAt_85 : decode b_Reader_ruleAt 85 = .ok (.aload_n 3, 1) := by decide +kernel
theorem d_Reader_ruleAt_86 : decode b_Reader_ruleAt 86 = .ok (.invokestatic 108, 3) := by decide +kernel
theorem d_Reader_ruleAt_89 : decode b_Reader_ruleAt 89 = .ok (.ifCond .eq 6, 3) := by decide +kernel
theorem d_Reader_ruleAt_92 : decode b_Reader_ruleAt 92 = .ok (.aload 5, 2) := by decide +kernel
theorem d_Reader_ruleAt_94 : decode b_Reader_ruleAt 94 = .ok (.astore_n 3, 1) := by decide +kernel
theorem d_Reader_ruleAt_95 : decode b_Reader_ruleAt 95 = .ok (.iinc 4 1, 3) := by decide +kernel
theorem d_Reader_ruleAt_98 : decode b_Reader_ruleAt 98 = .ok (.goto (-93), 3) := by decide +kernel
theorem d_Reader_ruleAt_101 : decode b_Reader_ruleAt 101 = .ok (.aload_n 3, 1) := by decide +kernel
theorem d_Reader_ruleAt_102 : decode b_Reader_ruleAt 102 = .ok (.areturn, 1) := by decide +kernel
theorem d_Reader_isBetter_0 : decode b_Reader_isBetter 0 = .ok (.aload_n 0, 1) := by decide +kernel
theorem d_Reader_isBetter_1 : decode b_Reader_isBetter 1 = .ok (.getfield 91, 3) := by decide +kernel
theorem d_Reader_isBetter_4 : decode b_Reader_isBetter 4 = .ok (.aload_n 1, 1) := by decide +kernel
theorem d_Reader_isBetter_5 : decode b_Reader_isBetter 5 = .ok (.getfield 91, 3) := by decide +kernel
theorem d_Reader_isBetter_8 : decode b_Reader_isBetter 8 = .ok (.if_icmp .gt 25, 3) := by decide +kernel
theorem d_Reader_isBetter_11 : decode b_Reader_isBetter 11 = .ok (.aload_n 0, 1) := by decide +kernel
theorem d_Reader_isBetter_12 : decode b_Reader_isBetter 12 = .ok (.getfield 91, 3) := by decide +kernel
theorem d_Reader_isBetter_15 : decode b_Reader_isBetter 15 = .ok (.aload_n 1, 1) := by decide +kernel
theorem d_Reader_isBetter_16 : decode b_Reader_isBetter 16 = .ok (.getfield 91, 3) := by decide +kernel
theorem d_Reader_isBetter_19 : decode b_Reader_isBetter 19 = .ok (.if_icmp .ne 18, 3) := by decide +kernel
theorem d_Reader_isBetter_22 : decode b_Reader_isBetter 22 = .ok (.aload_n 0, 1) := by decide +kernel
theorem d_Reader_isBetter_23 : decode b_Reader_isBetter 23 = .ok (.getfield 112, 3) := by decide +kernel
theorem d_Reader_isBetter_26 : decode b_Reader_isBetter 26 = .ok (.aload_n 1, 1) := by decide +kernel
theorem d_Reader_isBetter_27 : decode b_Reader_isBetter 27 = .ok (.getfield 112, 3) := by decide +kernel
theorem d_Reader_isBetter_30 : decode b_Reader_isBetter 30 = .ok (.if_icmp .ge 7, 3) := by decide +kernel
theorem d_Reader_isBetter_33 : decode b_Reader_isBetter 33 = .ok (.iconst 1, 1) := by decide +kernel
theorem d_Reader_isBetter_34 : decode b_Reader_isBetter 34 = .ok (.goto 4, 3) := by decide +kernel
theorem d_Reader_isBetter_37 : decode b_Reader_isBetter 37 = .ok (.iconst 0, 1) := by decide +kernel
theorem d_Reader_isBetter_38 : decode b_Reader_isBetter 38 = .ok (.ireturn, 1) := by decide +kernel
theorem d_Reader_putInCase_0 : decode b_Reader_putInCase 0 = .ok (.aload_n 0, 1) := by decide +kernel
theorem d_Reader_putInCase_1 : decode b_Reader_putInCase 1 = .ok (.aload_n 0, 1) := by decide +kernel
theorem d_Reader_putInCase_2 : decode b_Reader_putInCase 2 = .ok (.getfield 55, 3) := by decide +kernel
theorem d_Reader_putInCase_5 : decode b_Reader_putInCase 5 = .ok (.ifCond .ne 10, 3) := by decide +kernel
theorem d_Reader_putInCase_8 : decode b_Reader_putInCase 8 = .ok (.aload_n 0, 1) := by decide +kernel
theorem d_Reader_putInCase_9 : decode b_Reader_putInCase 9 = .ok (.getfield 58, 3) := by decide +kernel
theorem d_Reader_putInCase_12 : decode b_Reader_putInCase 12 = .ok (.ifCond .eq 10, 3) := by decide +kernel
theorem d_Reader_putInCase_15 : decode b_Reader_putInCase 15 = .ok (.iload_n 1, 1) := by decide +kernel
theorem d_Reader_putInCase_16 : decode b_Reader_putInCase 16 = .ok (.invokestatic 115, 3) := by decide +kernel
theorem d_Reader_putInCase_19 : decode b_Reader_putInCase 19 = .ok (.goto 4, 3) := by decide +kernel
theorem d_Reader_putInCase_22 : decode b_Reader_putInCase 22 = .ok (.iload_n 1, 1) := by decide +kernel
theorem d_Reader_putInCase_23 : decode b_Reader_putInCase 23 = .ok (.invokevirtual 30, 3) := by decide +kernel
theorem d_Reader_putInCase_26 : decode b_Reader_putInCase 26 = .ok (.iload_n 1, 1) := by decide +kernel
theorem d_Reader_putInCase_27 : decode b_Reader_putInCase 27 = .ok (.invokestatic 119, 3) := by decide +kernel
theorem d_Reader_putInCase_30 : decode b_Reader_putInCase 30 = .ok (.ifCond .eq 8, 3) := by decide +kernel
theorem d_Reader_putInCase_33 : decode b_Reader_putInCase 33 = .ok (.aload_n 0, 1) := by decide +kernel
theorem d_Reader_putInCase_34 : decode b_Reader_putInCase 34 = .ok (.iconst 0, 1) := by decide +kernel
theorem d_Reader_putInCase_35 : decode b_Reader_putInCase 35 = .ok (.putfield 55, 3) := by decide +kernel
theorem d_Reader_putInCase_38 : decode b_Reader_putInCase 38 = .ok (.return_, 1) := by decide +kernel
theorem d_Reader_put_0 : decode b_Reader_put 0 = .ok (.aload_n 0, 1) := by decide +kernel
theorem d_Reader_put_1 : decode b_Reader_put 1 = .ok (.getfield 19, 3) := by decide +kernel
theorem d_Reader_put_4 : decode b_Reader_put 4 = .ok (.aload_n 0, 1) := by decide +kernel
theorem d_Reader_put_5 : decode b_Reader_put 5 = .ok (.getfield 9, 3) := by decide +kernel
theorem d_Reader_put_8 : decode b_Reader_put 8 = .ok (.arraylength, 1) := by decide +kernel
theorem d_Reader_put_9 : decode b_Reader_put 9 = .ok (.if_icmp .ge 23, 3) := by decide +kernel
theorem d_Reader_put_12 : decode b_Reader_put 12 = .ok (.aload_n 0, 1) := by decide +kernel
theorem d_Reader_put_13 : decode b_Reader_put 13 = .ok (.getfield 9, 3) := by decide +kernel
theorem d_Reader_put_16 : decode b_Reader_put 16 = .ok (.aload_n 0, 1) := by decide +kernel
theorem d_Reader_put_17 : decode b_Reader_put 17 = .ok (.getfield 19, 3) := by decide +kernel
theorem d_Reader_put_20 : decode b_Reader_put 20 = .ok (.iload_n 1, 1) := by decide +kernel
theorem d_Reader_put_21 : decode b_Reader_put 21 = .ok (.castore, 1) := by decide +kernel
theorem d_Reader_put_22 : decode b_Reader_put 22 = .ok (.aload_n 0, 1) := by decide +kernel
theorem d_Reader_put_23 : decode b_Reader_put 23 = .ok (.dup, 1) := by decide +kernel
theorem d_Reader_put_24 : decode b_Reader_put 24 = .ok (.getfield 19, 3) := by decide +kernel
theorem d_Reader_put_27 : decode b_Reader_put 27 = .ok (.iconst 1, 1) := by decide +kernel
theorem d_Reader_put_28 : decode b_Reader_put 28 = .ok (.iadd, 1) := by decide +kernel
theorem d_Reader_put_29 : decode b_Reader_put 29 = .ok (.putfield 19, 3) := by decide +kernel
theorem d_Reader_put_32 : decode b_Reader_put 32 = .ok (.return_, 1) := by decide +kernel
theorem d_Rule_init_0 : decode b_Rule_init 0 = .ok (.aload_n 0, 1) := by decide +kernel
theorem d_Rule_init_1 : decode b_Rule_init 1 = .ok (.invokespecial 3, 3) := by decide +kernel
theorem d_Rule_init_4 : decode b_Rule_init 4 = .ok (.aload_n 0, 1) := by decide +kernel
theorem d_Rule_init_5 : decode b_Rule_init 5 = .ok (.bipush 6, 2) := by decide +kernel
theorem d_Rule_init_7 : decode b_Rule_init 7 = .ok (.newarray .char, 2) := by decide +kernel
theorem d_Rule_init_9 : decode b_Rule_init 9 = .ok (.putfield 9, 3) := by decide +kernel
theorem d_Rule_init_12 : decode b_Rule_init 12 = .ok (.aload_n 0, 1) := by decide +kernel
theorem d_Rule_init_13 : decode b_Rule_init 13 = .ok (.iconst 3, 1) := by decide +kernel
theorem d_Rule_init_14 : decode b_Rule_init 14 = .ok (.newarray .int, 2) := by decide +kernel
theorem d_Rule_init_16 : decode b_Rule_init 16 = .ok (.putfield 15, 3) := by decide +kernel
theorem d_Rule_init_19 : decode b_Rule_init 19 = .ok (.return_, 1) := by decide +kernel
theorem d_Rule_readFrom_0 : decode b_Rule_readFrom 0 = .ok (.aload_n 0, 1) := by decide +kernel
theorem d_Rule_readFrom_1 : decode b_Rule_readFrom 1 = .ok (.ldc 19, 2) := by decide +kernel
theorem d_Rule_readFrom_3 : decode b_Rule_readFrom 3 = .ok (.aload_n 1, 1) := by decide +kernel
theorem d_Rule_readFrom_4 : decode b_Rule_readFrom 4 = .ok (.iload_n 2, 1) := by decide +kernel
theorem d_Rule_readFrom_5 : decode b_Rule_readFrom 5 = .ok (.invokevirtual 21, 3) := by decide +kernel
theorem d_Rule_readFrom_8 : decode b_Rule_readFrom 8 = .ok (.invokevirtual 27, 3) := by decide +kernel
theorem d_Rule_readFrom_11 : decode b_Rule_readFrom 11 = .ok (.putfield 33, 3) := by decide +kernel
theorem d_Rule_readFrom_14 : decode b_Rule_readFrom 14 = .ok (.aload_n 0, 1) := by decide +kernel
theorem d_Rule_readFrom_15 : decode b_Rule_readFrom 15 = .ok (.getfield 33, 3) := by decide +kernel
theorem d_Rule_readFrom_18 : decode b_Rule_readFrom 18 = .ok (.ifCond .lt 15, 3) := by decide +kernel
theorem d_Rule_readFrom_21 : decode b_Rule_readFrom 21 = .ok (.aload_n 1, 1) := by decide +kernel
theorem d_Rule_readFrom_22 : decode b_Rule_readFrom 22 = .ok (.iload_n 2, 1) := by decide +kernel
theorem d_Rule_readFrom_23 : decode b_Rule_readFrom 23 = .ok (.iconst 1, 1) := by decide +kernel
theorem d_Rule_readFrom_24 : decode b_Rule_readFrom 24 = .ok (.iadd, 1) := by decide +kernel
theorem d_Rule_readFrom_25 : decode b_Rule_readFrom 25 = .ok (.invokevirtual 21, 3) := by decide +kernel
theorem d_Rule_readFrom_28 : decode b_Rule_readFrom 28 = .ok (.bipush 32, 2) := by decide +kernel
theorem d_Rule_readFrom_30 : decode b_Rule_readFrom 30 = .ok (.if_icmp .eq 5, 3) := by decide +kernel
theorem d_Rule_readFrom_33 : decode b_Rule_readFrom 33 = .ok (.iconst 0, 1) := by decide +kernel
theorem d_Rule_readFrom_34 : decode b_Rule_readFrom 34 = .ok (.ireturn, 1) := by decide +kernel
theorem d_Rule_readFrom_35 : decode b_Rule_readFrom 35 = .ok (.aload_n 0, 1) := by decide +kernel
theorem d_Rule_readFrom_36 : decode b_Rule_readFrom 36 = .ok (.aload_n 1, 1) := by decide +kernel
theorem d_Rule_readFrom_37 : decode b_Rule_readFrom 37 = .ok (.iload_n 2, 1) := by decide +kernel
theorem d_Rule_readFrom_38 : decode b_Rule_readFrom 38 = .ok (.iconst 2, 1) := by decide +kernel
theorem d_Rule_readFrom_39 : decode b_Rule_readFrom 39 = .ok (.iadd, 1) := by decide +kernel
theorem d_Rule_readFrom_40 : decode b_Rule_readFrom 40 = .ok (.invokevirtual 37, 3) := by decide +kernel
theorem d_Rule_readFrom_43 : decode b_Rule_readFrom 43 = .ok (.iload_n 2, 1) := by decide +kernel
theorem d_Rule_readFrom_44 : decode b_Rule_readFrom 44 = .ok (.iconst 2, 1) := by decide +kernel
theorem d_Rule_readFrom_45 : decode b_Rule_readFrom 45 = .ok (.iadd, 1) := by decide +kernel
theorem d_Rule_readFrom_46 : decode b_Rule_readFrom 46 = .ok (.aload_n 0, 1) := by decide +kernel
theorem d_Rule_readFrom_47 : decode b_Rule_readFrom 47 = .ok (.getfield 41, 3) := by decide +kernel
theorem d_Rule_readFrom_50 : decode b_Rule_readFrom 50 = .ok (.iadd, 1) := by decide +kernel
theorem d_Rule_readFrom_51 : decode b_Rule_readFrom 51 = .ok (.istore 4, 2) := by decide +kernel
theorem d_Rule_readFrom_53 : decode b_Rule_readFrom 53 = .ok (.aload_n 0, 1) := by decide +kernel
theorem d_Rule_readFrom_54 : decode b_Rule_readFrom 54 = .ok (.getfield 41, 3) := by decide +kernel
theorem d_Rule_readFrom_57 : decode b_Rule_readFrom 57 = .ok (.iconst 2, 1) := by decide +kernel
theorem d_Rule_readFrom_58 : decode b_Rule_readFrom 58 = .ok (.if_icmp .lt 31, 3) := by decide +kernel
theorem d_Rule_readFrom_61 : decode b_Rule_readFrom 61 = .ok (.aload_n 1, 1) := by decide +kernel
theorem d_Rule_readFrom_62 : decode b_Rule_readFrom 62 = .ok (.iload 4, 2) := by decide +kernel
theorem d_Rule_readFrom_64 : decode b_Rule_readFrom 64 = .ok (.invokevirtual 21, 3) := by decide +kernel
theorem d_Rule_readFrom_67 : decode b_Rule_readFrom 67 = .ok (.bipush 61, 2) := by decide +kernel
theorem d_Rule_readFrom_69 : decode b_Rule_readFrom 69 = .ok (.if_icmp .ne 20, 3) := by decide +kernel
theorem d_Rule_readFrom_72 : decode b_Rule_readFrom 72 = .ok (.aload_n 0, 1) := by decide +kernel
theorem d_Rule_readFrom_73 : decode b_Rule_readFrom 73 = .ok (.aload_n 1, 1) := by decide +kernel
theorem d_Rule_readFrom_74 : decode b_Rule_readFrom 74 = .ok (.iload 4, 2) := by decide +kernel
theorem d_Rule_readFrom_76 : decode b_Rule_readFrom 76 = .ok (.iconst 1, 1) := by decide +kernel
theorem d_Rule_readFrom_77 : decode b_Rule_readFrom 77 = .ok (.iadd, 1) := by decide +kernel
theorem d_Rule_readFrom_78 : decode b_Rule_readFrom 78 = .ok (.iload_n 3, 1) := by decide +kernel
theorem d_Rule_readFrom_79 : decode b_Rule_readFrom 79 = .ok (.invokevirtual 44, 3) := by decide +kernel
theorem d_Rule_readFrom_82 : decode b_Rule_readFrom 82 = .ok (.ifCond .eq 7, 3) := by decide +kernel
theorem d_Rule_readFrom_85 : decode b_Rule_readFrom 85 = .ok (.iconst 1, 1) := by decide +kernel
theorem d_Rule_readFrom_86 : decode b_Rule_readFrom 86 = .ok (.goto 4, 3) := by decide +kernel
theorem d_Rule_readFrom_89 : decode b_Rule_readFrom 89 = .ok (.iconst 0, 1) := by decide +kernel
theorem d_Rule_readFrom_90 : decode b_Rule_readFrom 90 = .ok (.ireturn, 1) := by decide +kernel
theorem d_Rule_readLetters_0 : decode b_Rule_readLetters 0 = .ok (.aload_n 0, 1) := by decide +kernel
theorem d_Rule_readLetters_1 : decode b_Rule_readLetters 1 = .ok (.iconst 0, 1) := by decide +kernel
theorem d_Rule_readLetters_2 : decode b_Rule_readLetters 2 = .ok (.putfield 41, 3) := by decide +kernel
theorem d_Rule_readLetters_5 : decode b_Rule_readLetters 5 = .ok (.iconst 0, 1) := by decide +kernel
theorem d_Rule_readLetters_6 : decode b_Rule_readLetters 6 = .ok (.istore_n 3, 1) := by decide +kernel
theorem d_Rule_readLetters_7 : decode b_Rule_readLetters 7 = .ok (.iload_n 3, 1) := by decide +kernel
theorem d_Rule_readLetters_8 : decode b_Rule_readLetters 8 = .ok (.bipush 6, 2) := by decide +kernel
theorem d_Rule_readLetters_10 : decode b_Rule_readLetters 10 = .ok (.if_icmp .ge 45, 3) := by decide +kernel
theorem d_Rule_readLetters_13 : decode b_Rule_readLetters 13 = .ok (.aload_n 1, 1) := by decide +kernel
theorem d_Rule_readLetters_14 : decode b_Rule_readLetters 14 = .ok (.iload_n 2, 1) := by decide +kernel
theorem d_Rule_readLetters_15 : decode b_Rule_readLetters 15 = .ok (.iload_n 3, 1) := by decide +kernel
theorem d_Rule_readLetters_16 : decode b_Rule_readLetters 16 = .ok (.iadd, 1) := by decide +kernel
theorem d_Rule_readLetters_17 : decode b_Rule_readLetters 17 = .ok (.invokevirtual 21, 3) := by decide +kernel
theorem d_Rule_readLetters_20 : decode b_Rule_readLetters 20 = .ok (.invokestatic 48, 3) := by decide +kernel
theorem d_Rule_readLetters_23 : decode b_Rule_readLetters 23 = .ok (.ifCond .eq 32, 3) := by decide +kernel
theorem d_Rule_readLetters_26 : decode b_Rule_readLetters 26 = .ok (.aload_n 0, 1) := by decide +kernel
theorem d_Rule_readLetters_27 : decode b_Rule_readLetters 27 = .ok (.getfield 9, 3) := by decide +kernel
theorem d_Rule_readLetters_30 : decode b_Rule_readLetters 30 = .ok (.iload_n 3, 1) := by decide +kernel
theorem d_Rule_readLetters_31 : decode b_Rule_readLetters 31 = .ok (.aload_n 1, 1) := by decide +kernel
theorem d_Rule_readLetters_32 : decode b_Rule_readLetters 32 = .ok (.iload_n 2, 1) := by decide +kernel
theorem d_Rule_readLetters_33 : decode b_Rule_readLetters 33 = .ok (.iload_n 3, 1) := by decide +kernel
theorem d_Rule_readLetters_34 : decode b_Rule_readLetters 34 = .ok (.iadd, 1) := by decide +kernel
theorem d_Rule_readLetters_35 : decode b_Rule_readLetters 35 = .ok (.invokevirtual 21, 3) := by decide +kernel
theorem d_Rule_readLetters_38 : decode b_Rule_readLetters 38 = .ok (.castore, 1) := by decide +kernel
theorem d_Rule_readLetters_39 : decode b_Rule_readLetters 39 = .ok (.aload_n 0, 1) := by decide +kernel
theorem d_Rule_readLetters_40 : decode b_Rule_readLetters 40 = .ok (.dup, 1) := by decide +kernel
theorem d_Rule_readLetters_41 : decode b_Rule_readLetters 41 = .ok (.getfield 41, 3) := by decide +kernel
theorem d_Rule_readLetters_44 : decode b_Rule_readLetters 44 = .ok (.iconst 1, 1) := by decide +kernel
theorem d_Rule_readLetters_45 : decode b_Rule_readLetters 45 = .ok (.iadd, 1) := by decide +kernel
theorem d_Rule_readLetters_46 : decode b_Rule_readLetters 46 = .ok (.putfield 41, 3) := by decide +kernel
theorem d_Rule_readLetters_49 : decode b_Rule_readLetters 49 = .ok (.iinc 3 1, 3) := by decide +kernel
theorem d_Rule_readLetters_52 : decode b_Rule_readLetters 52 = .ok (.goto (-45), 3) := by decide +kernel
theorem d_Rule_readLetters_55 : decode b_Rule_readLetters 55 = .ok (.return_, 1) := by decide +kernel
theorem d_Rule_readCells_0 : decode b_Rule_readCells 0 = .ok (.aload_n 0, 1) := by decide +kernel
theorem d_Rule_readCells_1 : decode b_Rule_readCells 1 = .ok (.iconst 0, 1) := by decide +kernel
theorem d_Rule_readCells_2 : decode b_Rule_readCells 2 = .ok (.putfield 54, 3) := by decide +kernel
theorem d_Rule_readCells_5 : decode b_Rule_readCells 5 = .ok (.iconst 0, 1) := by decide +kernel
theorem d_Rule_readCells_6 : decode b_Rule_readCells 6 = .ok (.istore 4, 2) := by decide +kernel
theorem d_Rule_readCells_8 : decode b_Rule_readCells 8 = .ok (.iload_n 2, 1) := by decide +kernel
theorem d_Rule_readCells_9 : decode b_Rule_readCells 9 = .ok (.istore 5, 2) := by decide +kernel
theorem d_Rule_readCells_11 : decode b_Rule_readCells 11 = .ok (.iload 5, 2) := by decide +kernel
theorem d_Rule_readCells_13 : decode b_Rule_readCells 13 = .ok (.iload_n 3, 1) := by decide +kernel
theorem d_Rule_readCells_14 : decode b_Rule_readCells 14 = .ok (.if_icmp .ge 84, 3) := by decide +kernel
theorem d_Rule_readCells_17 : decode b_Rule_readCells 17 = .ok (.aload_n 1, 1) := by decide +kernel
theorem d_Rule_readCells_18 : decode b_Rule_readCells 18 = .ok (.iload 5, 2) := by decide +kernel
theorem d_Rule_readCells_20 : decode b_Rule_readCells 20 = .ok (.invokevirtual 21, 3) := by decide +kernel
theorem d_Rule_readCells_23 : decode b_Rule_readCells 23 = .ok (.istore 6, 2) := by decide +kernel
theorem d_Rule_readCells_25 : decode b_Rule_readCells 25 = .ok (.iload 6, 2) := by decide +kernel
theorem d_Rule_readCells_27 : decode b_Rule_readCells 27 = .ok (.bipush 45, 2) := by decide +kernel
theorem d_Rule_readCells_29 : decode b_Rule_readCells 29 = .ok (.if_icmp .ne 20, 3) := by decide +kernel
theorem d_Rule_readCells_32 : decode b_Rule_readCells 32 = .ok (.aload_n 0, 1) := by decide +kernel
theorem d_Rule_readCells_33 : decode b_Rule_readCells 33 = .ok (.iload 4, 2) := by decide +kernel
theorem d_Rule_readCells_35 : decode b_Rule_readCells 35 = .ok (.invokevirtual 57, 3) := by decide +kernel
theorem d_Rule_readCells_38 : decode b_Rule_readCells 38 = .ok (.ifCond .ne 5, 3) := by decide +kernel
theorem d_Rule_readCells_41 : decode b_Rule_readCells 41 = .ok (.iconst 0, 1) := by decide +kernel
theorem d_Rule_readCells_42 : decode b_Rule_readCells 42 = .ok (.ireturn, 1) := by decide +kernel
theorem d_Rule_readCells_43 : decode b_Rule_readCells 43 = .ok (.iconst 0, 1) := by decide +kernel
theorem d_Rule_readCells_44 : decode b_Rule_readCells 44 = .ok (.istore 4, 2) := by decide +kernel
theorem d_Rule_readCells_46 : decode b_Rule_readCells 46 = .ok (.goto 46, 3) := by decide +kernel
theorem d_Rule_readCells_49 : decode b_Rule_readCells 49 = .ok (.iload 6, 2) := by decide +kernel
theorem d_Rule_readCells_51 : decode b_Rule_readCells 51 = .ok (.bipush 49, 2) := by decide +kernel
theorem d_Rule_readCells_53 : decode b_Rule_readCells 53 = .ok (.if_icmp .lt 20, 3) := by decide +kernel
theorem d_Rule_readCells_56 : decode b_Rule_readCells 56 = .ok (.iload 6, 2) := by decide +kernel
theorem d_Rule_readCells_58 : decode b_Rule_readCells 58 = .ok (.bipush 54, 2) := by decide +kernel
theorem d_Rule_readCells_60 : decode b_Rule_readCells 60 = .ok (.if_icmp .gt 13, 3) := by decide +kernel
theorem d_Rule_readCells_63 : decode b_Rule_readCells 63 = .ok (.iconst 1, 1) := by decide +kernel
theorem d_Rule_readCells_64 : decode b_Rule_readCells 64 = .ok (.iload 6, 2) := by decide +kernel
theorem d_Rule_readCells_66 : decode b_Rule_readCells 66 = .ok (.bipush 49, 2) := by decide +kernel
theorem d_Rule_readCells_68 : decode b_Rule_readCells 68 = .ok (.isub, 1) := by decide +kernel
theorem d_Rule_readCells_69 : decode b_Rule_readCells 69 = .ok (.ishl, 1) := by decide +kernel
theorem d_Rule_readCells_70 : decode b_Rule_readCells 70 = .ok (.goto 4, 3) := by decide +kernel
theorem d_Rule_readCells_73 : decode b_Rule_readCells 73 = .ok (.iconst 0, 1) := by decide +kernel
theorem d_Rule_readCells_74 : decode b_Rule_readCells 74 = .ok (.istore 7, 2) := by decide +kernel
theorem d_Rule_readCells_76 : decode b_Rule_readCells 76 = .ok (.iload 7, 2) := by decide +kernel
theorem d_Rule_readCells_78 : decode b_Rule_readCells 78 = .ok (.iload 4, 2) := by decide +kernel
theorem d_Rule_readCells_80 : decode b_Rule_readCells 80 = .ok (.if_icmp .gt 5, 3) := by decide +kernel
theorem d_Rule_readCells_83 : decode b_Rule_readCells 83 = .ok (.iconst 0, 1) := by decide +kernel
theorem d_Rule_readCells_84 : decode b_Rule_readCells 84 = .ok (.ireturn, 1) := by decide +kernel
theorem d_Rule_readCells_85 : decode b_Rule_readCells 85 = .ok (.iload 4, 2) := by decide +kernel
theorem d_Rule_readCells_87 : decode b_Rule_readCells 87 = .ok (.iload 7, 2) := by decide +kernel
theorem d_Rule_readCells_89 : decode b_Rule_readCells 89 = .ok (.iadd, 1) := by decide +kernel
theorem d_Rule_readCells_90 : decode b_Rule_readCells 90 = .ok (.istore 4, 2) := by decide +kernel
theorem d_Rule_readCells_92 : decode b_Rule_readCells 92 = .ok (.iinc 5 1, 3) := by decide +kernel
theorem d_Rule_readCells_95 : decode b_Rule_readCells 95 = .ok (.goto (-84), 3) := by decide +kernel
theorem d_Rule_readCells_98 : decode b_Rule_readCells 98 = .ok (.aload_n 0, 1) := by decide +kernel
theorem d_Rule_readCells_99 : decode b_Rule_readCells 99 = .ok (.iload 4, 2) := by decide +kernel
theorem d_Rule_readCells_101 : decode b_Rule_readCells 101 = .ok (.invokevirtual 57, 3) := by decide +kernel
theorem d_Rule_readCells_104 : decode b_Rule_readCells 104 = .ok (.ireturn, 1) := by decide +kernel
theorem d_Rule_putCell_0 : decode b_Rule_putCell 0 = .ok (.iload_n 1, 1) := by decide +kernel
theorem d_Rule_putCell_1 : decode b_Rule_putCell 1 = .ok (.ifCond .eq 11, 3) := by decide +kernel
theorem d_Rule_putCell_4 : decode b_Rule_putCell 4 = .ok (.aload_n 0, 1) := by decide +kernel
theorem d_Rule_putCell_5 : decode b_Rule_putCell 5 = .ok (.getfield 54, 3) := by decide +kernel
theorem d_Rule_putCell_8 : decode b_Rule_putCell 8 = .ok (.iconst 3, 1) := by decide +kernel
theorem d_Rule_putCell_9 : decode b_Rule_putCell 9 = .ok (.if_icmp .lt 5, 3) := by decide +kernel
theorem d_Rule_putCell_12 : decode b_Rule_putCell 12 = .ok (.iconst 0, 1) := by decide +kernel
theorem d_Rule_putCell_13 : decode b_Rule_putCell 13 = .ok (.ireturn, 1) := by decide +kernel
theorem d_Rule_putCell_14 : decode b_Rule_putCell 14 = .ok (.aload_n 0, 1) := by decide +kernel
theorem d_Rule_putCell_15 : decode b_Rule_putCell 15 = .ok (.getfield 15, 3) := by decide +kernel
theorem d_Rule_putCell_18 : decode b_Rule_putCell 18 = .ok (.aload_n 0, 1) := by decide +kernel
theorem d_Rule_putCell_19 : decode b_Rule_putCell 19 = .ok (.getfield 54, 3) := by decide +kernel
theorem d_Rule_putCell_22 : decode b_Rule_putCell 22 = .ok (.iload_n 1, 1) := by decide +kernel
theorem d_Rule_putCell_23 : decode b_Rule_putCell 23 = .ok (.iastore, 1) := by decide +kernel
theorem d_Rule_putCell_24 : decode b_Rule_putCell 24 = .ok (.aload_n 0, 1) := by decide +kernel
theorem d_Rule_putCell_25 : decode b_Rule_putCell 25 = .ok (.dup, 1) := by decide +kernel
theorem d_Rule_putCell_26 : decode b_Rule_putCell 26 = .ok (.getfield 54, 3) := by decide +kernel
theorem d_Rule_putCell_29 : decode b_Rule_putCell 29 = .ok (.iconst 1, 1) := by decide +kernel
theorem d_Rule_putCell_30 : decode b_Rule_putCell 30 = .ok (.iadd, 1) := by decide +kernel
theorem d_Rule_putCell_31 : decode b_Rule_putCell 31 = .ok (.putfield 54, 3) := by decide +kernel
theorem d_Rule_putCell_34 : decode b_Rule_putCell 34 = .ok (.iconst 1, 1) := by decide +kernel
theorem d_Rule_putCell_35 : decode b_Rule_putCell 35 = .ok (.ireturn, 1) := by decide +kernel
theorem d_Rule_isLike_0 : decode b_Rule_isLike 0 = .ok (.aload_n 0, 1) := by decide +kernel
theorem d_Rule_isLike_1 : decode b_Rule_isLike 1 = .ok (.getfield 33, 3) := by decide +kernel
theorem d_Rule_isLike_4 : decode b_Rule_isLike 4 = .ok (.aload_n 1, 1) := by decide +kernel
theorem d_Rule_isLike_5 : decode b_Rule_isLike 5 = .ok (.getfield 33, 3) := by decide +kernel
theorem d_Rule_isLike_8 : decode b_Rule_isLike 8 = .ok (.if_icmp .ne 14, 3) := by decide +kernel
theorem d_Rule_isLike_11 : decode b_Rule_isLike 11 = .ok (.aload_n 0, 1) := by decide +kernel
theorem d_Rule_isLike_12 : decode b_Rule_isLike 12 = .ok (.getfield 41, 3) := by decide +kernel
theorem d_Rule_isLike_15 : decode b_Rule_isLike 15 = .ok (.aload_n 1, 1) := by decide +kernel
theorem d_Rule_isLike_16 : decode b_Rule_isLike 16 = .ok (.getfield 41, 3) := by decide +kernel
theorem d_Rule_isLike_19 : decode b_Rule_isLike 19 = .ok (.if_icmp .eq 5, 3) := by decide +kernel
theorem d_Rule_isLike_22 : decode b_Rule_isLike 22 = .ok (.iconst 0, 1) := by decide +kernel
theorem d_Rule_isLike_23 : decode b_Rule_isLike 23 = .ok (.ireturn, 1) := by decide +kernel
theorem d_Rule_isLike_24 : decode b_Rule_isLike 24 = .ok (.iconst 0, 1) := by decide +kernel
theorem d_Rule_isLike_25 : decode b_Rule_isLike 25 = .ok (.istore_n 2, 1) := by decide +kernel
theorem d_Rule_isLike_26 : decode b_Rule_isLike 26 = .ok (.iload_n 2, 1) := by decide +kernel
theorem d_Rule_isLike_27 : decode b_Rule_isLike 27 = .ok (.aload_n 0, 1) := by decide +kernel
theorem d_Rule_isLike_28 : decode b_Rule_isLike 28 = .ok (.getfield 41, 3) := by decide +kernel
theorem d_Rule_isLike_31 : decode b_Rule_isLike 31 = .ok (.if_icmp .ge 26, 3) := by decide +kernel
theorem d_Rule_isLike_34 : decode b_Rule_isLike 34 = .ok (.aload_n 0, 1) := by decide +kernel
theorem d_Rule_isLike_35 : decode b_Rule_isLike 35 = .ok (.getfield 9, 3) := by decide +kernel
theorem d_Rule_isLike_38 : decode b_Rule_isLike 38 = .ok (.iload_n 2, 1) := by decide +kernel
theorem d_Rule_isLike_39 : decode b_Rule_isLike 39 = .ok (.caload, 1) := by decide +kernel
theorem d_Rule_isLike_40 : decode b_Rule_isLike 40 = .ok (.aload_n 1, 1) := by decide +kernel
theorem d_Rule_isLike_41 : decode b_Rule_isLike 41 = .ok (.getfield 9, 3) := by decide +kernel
theorem d_Rule_isLike_44 : decode b_Rule_isLike 44 = .ok (.iload_n 2, 1) := by decide +kernel
theorem d_Rule_isLike_45 : decode b_Rule_isLike 45 = .ok (.caload, 1) := by decide +kernel
theorem d_Rule_isLike_46 : decode b_Rule_isLike 46 = .ok (.if_icmp .eq 5, 3) := by decide +kernel
theorem d_Rule_isLike_49 : decode b_Rule_isLike 49 = .ok (.iconst 0, 1) := by decide +kernel
theorem d_Rule_isLike_50 : decode b_Rule_isLike 50 = .ok (.ireturn, 1) := by decide +kernel
theorem d_Rule_isLike_51 : decode b_Rule_isLike 51 = .ok (.iinc 2 1, 3) := by decide +kernel
theorem d_Rule_isLike_54 : decode b_Rule_isLike 54 = .ok (.goto (-28), 3) := by decide +kernel
theorem d_Rule_isLike_57 : decode b_Rule_isLike 57 = .ok (.iconst 1, 1) := by decide +kernel
theorem d_Rule_isLike_58 : decode b_Rule_isLike 58 = .ok (.ireturn, 1) := by decide +kernel
theorem d_Rule_applies_0 : decode b_Rule_applies 0 = .ok (.aload_n 0, 1) := by decide +kernel
theorem d_Rule_applies_1 : decode b_Rule_applies 1 = .ok (.getfield 33, 3) := by decide +kernel
theorem d_Rule_applies_4 : decode b_Rule_applies 4 = .ok (.tableswitch 88 0 3 #[32, 46, 60, 74], 32) := by decide +kernel
theorem d_Rule_applies_36 : decode b_Rule_applies 36 = .ok (.iload_n 1, 1) := by decide +kernel
theorem d_Rule_applies_37 : decode b_Rule_applies 37 = .ok (.ifCond .eq 11, 3) := by decide +kernel
theorem d_Rule_applies_40 : decode b_Rule_applies 40 = .ok (.iload_n 2, 1) := by decide +kernel
theorem d_Rule_applies_41 : decode b_Rule_applies 41 = .ok (.ifCond .eq 7, 3) := by decide +kernel
theorem d_Rule_applies_44 : decode b_Rule_applies 44 = .ok (.iconst 1, 1) := by decide +kernel
theorem d_Rule_applies_45 : decode b_Rule_applies 45 = .ok (.goto 4, 3) := by decide +kernel
theorem d_Rule_applies_48 : decode b_Rule_applies 48 = .ok (.iconst 0, 1) := by decide +kernel
theorem d_Rule_applies_49 : decode b_Rule_applies 49 = .ok (.ireturn, 1) := by decide +kernel
theorem d_Rule_applies_50 : decode b_Rule_applies 50 = .ok (.iload_n 1, 1) := by decide +kernel
theorem d_Rule_applies_51 : decode b_Rule_applies 51 = .ok (.ifCond .eq 11, 3) := by decide +kernel
theorem d_Rule_applies_54 : decode b_Rule_applies 54 = .ok (.iload_n 2, 1) := by decide +kernel
theorem d_Rule_applies_55 : decode b_Rule_applies 55 = .ok (.ifCond .ne 7, 3) := by decide +kernel
theorem d_Rule_applies_58 : decode b_Rule_applies 58 = .ok (.iconst 1, 1) := by decide +kernel
theorem d_Rule_applies_59 : decode b_Rule_applies 59 = .ok (.goto 4, 3) := by decide +kernel
theorem d_Rule_applies_62 : decode b_Rule_applies 62 = .ok (.iconst 0, 1) := by decide +kernel
theorem d_Rule_applies_63 : decode b_Rule_applies 63 = .ok (.ireturn, 1) := by decide +kernel
theorem d_Rule_applies_64 : decode b_Rule_applies 64 = .ok (.iload_n 1, 1) := by decide +kernel
theorem d_Rule_applies_65 : decode b_Rule_applies 65 = .ok (.ifCond .ne 11, 3) := by decide +kernel
theorem d_Rule_applies_68 : decode b_Rule_applies 68 = .ok (.iload_n 2, 1) := by decide +kernel
theorem d_Rule_applies_69 : decode b_Rule_applies 69 = .ok (.ifCond .ne 7, 3) := by decide +kernel
theorem d_Rule_applies_72 : decode b_Rule_applies 72 = .ok (.iconst 1, 1) := by decide +kernel
theorem d_Rule_applies_73 : decode b_Rule_applies 73 = .ok (.goto 4, 3) := by decide +kernel
theorem d_Rule_applies_76 : decode b_Rule_applies 76 = .ok (.iconst 0, 1) := by decide +kernel
theorem d_Rule_applies_77 : decode b_Rule_applies 77 = .ok (.ireturn, 1) := by decide +kernel
theorem d_Rule_applies_78 : decode b_Rule_applies 78 = .ok (.iload_n 1, 1) := by decide +kernel
theorem d_Rule_applies_79 : decode b_Rule_applies 79 = .ok (.ifCond .ne 11, 3) := by decide +kernel
theorem d_Rule_applies_82 : decode b_Rule_applies 82 = .ok (.iload_n 2, 1) := by decide +kernel
theorem d_Rule_applies_83 : decode b_Rule_applies 83 = .ok (.ifCond .eq 7, 3) := by decide +kernel
theorem d_Rule_applies_86 : decode b_Rule_applies 86 = .ok (.iconst 1, 1) := by decide +kernel
theorem d_Rule_applies_87 : decode b_Rule_applies 87 = .ok (.goto 4, 3) := by decide +kernel
theorem d_Rule_applies_90 : decode b_Rule_applies 90 = .ok (.iconst 0, 1) := by decide +kernel
theorem d_Rule_applies_91 : decode b_Rule_applies 91 = .ok (.ireturn, 1) := by decide +kernel
theorem d_Rule_applies_92 : decode b_Rule_applies 92 = .ok (.iconst 1, 1) := by decide +kernel
theorem d_Rule_applies_93 : decode b_Rule_applies 93 = .ok (.ireturn, 1) := by decide +kernel
theorem d_Rule_hasLettersAt_0 : decode b_Rule_hasLettersAt 0 = .ok (.iconst 0, 1) := by decide +kernel
theorem d_Rule_hasLettersAt_1 : decode b_Rule_hasLettersAt 1 = .ok (.istore 4, 2) := by decide +kernel
theorem d_Rule_hasLettersAt_3 : decode b_Rule_hasLettersAt 3 = .ok (.iload 4, 2) := by decide +kernel
theorem d_Rule_hasLettersAt_5 : decode b_Rule_hasLettersAt 5 = .ok (.aload_n 0, 1) := by decide +kernel
theorem d_Rule_hasLettersAt_6 : decode b_Rule_hasLettersAt 6 = .ok (.getfield 41, 3) := by decide +kernel
theorem d_Rule_hasLettersAt_9 : decode b_Rule_hasLettersAt 9 = .ok (.if_icmp .ge 62, 3) := by decide +kernel
theorem d_Rule_hasLettersAt_12 : decode b_Rule_hasLettersAt 12 = .ok (.aload_n 1, 1) := by decide +kernel
theorem d_Rule_hasLettersAt_13 : decode b_Rule_hasLettersAt 13 = .ok (.iload_n 2, 1) := by decide +kernel
theorem d_Rule_hasLettersAt_14 : decode b_Rule_hasLettersAt 14 = .ok (.iload 4, 2) := by decide +kernel
theorem d_Rule_hasLettersAt_16 : decode b_Rule_hasLettersAt 16 = .ok (.iadd, 1) := by decide +kernel
theorem d_Rule_hasLettersAt_17 : decode b_Rule_hasLettersAt 17 = .ok (.invokevirtual 21, 3) := by decide +kernel
theorem d_Rule_hasLettersAt_20 : decode b_Rule_hasLettersAt 20 = .ok (.istore 5, 2) := by decide +kernel
theorem d_Rule_hasLettersAt_22 : decode b_Rule_hasLettersAt 22 = .ok (.iload_n 3, 1) := by decide +kernel
theorem d_Rule_hasLettersAt_23 : decode b_Rule_hasLettersAt 23 = .ok (.ifCond .ne 8, 3) := by decide +kernel
theorem d_Rule_hasLettersAt_26 : decode b_Rule_hasLettersAt 26 = .ok (.iload 4, 2) := by decide +kernel
theorem d_Rule_hasLettersAt_28 : decode b_Rule_hasLettersAt 28 = .ok (.ifCond .ne 7, 3) := by decide +kernel
theorem d_Rule_hasLettersAt_31 : decode b_Rule_hasLettersAt 31 = .ok (.iconst 1, 1) := by decide +kernel
theorem d_Rule_hasLettersAt_32 : decode b_Rule_hasLettersAt 32 = .ok (.goto 4, 3) := by decide +kernel
theorem d_Rule_hasLettersAt_35 : decode b_Rule_hasLettersAt 35 = .ok (.iconst 0, 1) := by decide +kernel
theorem d_Rule_hasLettersAt_36 : decode b_Rule_hasLettersAt 36 = .ok (.istore 6, 2) := by decide +kernel
theorem d_Rule_hasLettersAt_38 : decode b_Rule_hasLettersAt 38 = .ok (.iload 6, 2) := by decide +kernel
theorem d_Rule_hasLettersAt_40 : decode b_Rule_hasLettersAt 40 = .ok (.ifCond .eq 11, 3) := by decide +kernel
theorem d_Rule_hasLettersAt_43 : decode b_Rule_hasLettersAt 43 = .ok (.iload 5, 2) := by decide +kernel
theorem d_Rule_hasLettersAt_45 : decode b_Rule_hasLettersAt 45 = .ok (.invokestatic 61, 3) := by decide +kernel
theorem d_Rule_hasLettersAt_48 : decode b_Rule_hasLettersAt 48 = .ok (.goto 5, 3) := by decide +kernel
theorem d_Rule_hasLettersAt_51 : decode b_Rule_hasLettersAt 51 = .ok (.iload 5, 2) := by decide +kernel
theorem d_Rule_hasLettersAt_53 : decode b_Rule_hasLettersAt 53 = .ok (.aload_n 0, 1) := by decide +kernel
theorem d_Rule_hasLettersAt_54 : decode b_Rule_hasLettersAt 54 = .ok (.getfield 9, 3) := by decide +kernel
theorem d_Rule_hasLettersAt_57 : decode b_Rule_hasLettersAt 57 = .ok (.iload 4, 2) := by decide +kernel
theorem d_Rule_hasLettersAt_59 : decode b_Rule_hasLettersAt 59 = .ok (.caload, 1) := by decide +kernel
theorem d_Rule_hasLettersAt_60 : decode b_Rule_hasLettersAt 60 = .ok (.if_icmp .eq 5, 3) := by decide +kernel
theorem d_Rule_hasLettersAt_63 : decode b_Rule_hasLettersAt 63 = .ok (.iconst 0, 1) := by decide +kernel
theorem d_Rule_hasLettersAt_64 : decode b_Rule_hasLettersAt 64 = .ok (.ireturn, 1) := by decide +kernel
theorem d_Rule_hasLettersAt_65 : decode b_Rule_hasLettersAt 65 = .ok (.iinc 4 1, 3) := by decide +kernel
theorem d_Rule_hasLettersAt_68 : decode b_Rule_hasLettersAt 68 = .ok (.goto (-65), 3) := by decide +kernel
theorem d_Rule_hasLettersAt_71 : decode b_Rule_hasLettersAt 71 = .ok (.iconst 1, 1) := by decide +kernel
theorem d_Rule_hasLettersAt_72 : decode b_Rule_hasLettersAt 72 = .ok (.ireturn, 1) := by decide +kernel
theorem d_Rule_hasCellsAt_0 : decode b_Rule_hasCellsAt 0 = .ok (.iconst 0, 1) := by decide +kernel
theorem d_Rule_hasCellsAt_1 : decode b_Rule_hasCellsAt 1 = .ok (.istore_n 3, 1) := by decide +kernel
theorem d_Rule_hasCellsAt_2 : decode b_Rule_hasCellsAt 2 = .ok (.iload_n 3, 1) := by decide +kernel
theorem d_Rule_hasCellsAt_3 : decode b_Rule_hasCellsAt 3 = .ok (.aload_n 0, 1) := by decide +kernel
theorem d_Rule_hasCellsAt_4 : decode b_Rule_hasCellsAt 4 = .ok (.getfield 54, 3) := by decide +kernel
theorem d_Rule_hasCellsAt_7 : decode b_Rule_hasCellsAt 7 = .ok (.if_icmp .ge 27, 3) := by decide +kernel
theorem d_Rule_hasCellsAt_10 : decode b_Rule_hasCellsAt 10 = .ok (.aload_n 1, 1) := by decide +kernel
theorem d_Rule_hasCellsAt_11 : decode b_Rule_hasCellsAt 11 = .ok (.iload_n 2, 1) := by decide +kernel
theorem d_Rule_hasCellsAt_12 : decode b_Rule_hasCellsAt 12 = .ok (.iload_n 3, 1) := by decide +kernel
theorem d_Rule_hasCellsAt_13 : decode b_Rule_hasCellsAt 13 = .ok (.iadd, 1) := by decide +kernel
theorem d_Rule_hasCellsAt_14 : decode b_Rule_hasCellsAt 14 = .ok (.invokevirtual 65, 3) := by decide +kernel
theorem d_Rule_hasCellsAt_17 : decode b_Rule_hasCellsAt 17 = .ok (.aload_n 0, 1) := by decide +kernel
theorem d_Rule_hasCellsAt_18 : decode b_Rule_hasCellsAt 18 = .ok (.getfield 15, 3) := by decide +kernel
theorem d_Rule_hasCellsAt_21 : decode b_Rule_hasCellsAt 21 = .ok (.iload_n 3, 1) := by decide +kernel
theorem d_Rule_hasCellsAt_22 : decode b_Rule_hasCellsAt 22 = .ok (.iaload, 1) := by decide +kernel
theorem d_Rule_hasCellsAt_23 : decode b_Rule_hasCellsAt 23 = .ok (.if_icmp .eq 5, 3) := by decide +kernel
theorem d_Rule_hasCellsAt_26 : decode b_Rule_hasCellsAt 26 = .ok (.iconst 0, 1) := by decide +kernel
theorem d_Rule_hasCellsAt_27 : decode b_Rule_hasCellsAt 27 = .ok (.ireturn, 1) := by decide +kernel
theorem d_Rule_hasCellsAt_28 : decode b_Rule_hasCellsAt 28 = .ok (.iinc 3 1, 3) := by decide +kernel
theorem d_Rule_hasCellsAt_31 : decode b_Rule_hasCellsAt 31 = .ok (.goto (-29), 3) := by decide +kernel
theorem d_Rule_hasCellsAt_34 : decode b_Rule_hasCellsAt 34 = .ok (.iconst 1, 1) := by decide +kernel
theorem d_Rule_hasCellsAt_35 : decode b_Rule_hasCellsAt 35 = .ok (.ireturn, 1) := by decide +kernel
theorem d_RuleList_init_0 : decode b_RuleList_init 0 = .ok (.aload_n 0, 1) := by decide +kernel
theorem d_RuleList_init_1 : decode b_RuleList_init 1 = .ok (.invokespecial 3, 3) := by decide +kernel
theorem d_RuleList_init_4 : decode b_RuleList_init 4 = .ok (.aload_n 0, 1) := by decide +kernel
theorem d_RuleList_init_5 : decode b_RuleList_init 5 = .ok (.bipush 24, 2) := by decide +kernel
theorem d_RuleList_init_7 : decode b_RuleList_init 7 = .ok (.anewarray 9, 3) := by decide +kernel
theorem d_RuleList_init_10 : decode b_RuleList_init 10 = .ok (.putfield 11, 3) := by decide +kernel
theorem d_RuleList_init_13 : decode b_RuleList_init 13 = .ok (.aload_n 0, 1) := by decide +kernel
theorem d_RuleList_init_14 : decode b_RuleList_init 14 = .ok (.iconst (-1), 1) := by decide +kernel
theorem d_RuleList_init_15 : decode b_RuleList_init 15 = .ok (.putfield 17, 3) := by decide +kernel
theorem d_RuleList_init_18 : decode b_RuleList_init 18 = .ok (.iconst 0, 1) := by decide +kernel
theorem d_RuleList_init_19 : decode b_RuleList_init 19 = .ok (.istore_n 1, 1) := by decide +kernel
theorem d_RuleList_init_20 : decode b_RuleList_init 20 = .ok (.iload_n 1, 1) := by decide +kernel
theorem d_RuleList_init_21 : decode b_RuleList_init 21 = .ok (.aload_n 0, 1) := by decide +kernel
theorem d_RuleList_init_22 : decode b_RuleList_init 22 = .ok (.getfield 11, 3) := by decide +kernel
theorem d_RuleList_init_25 : decode b_RuleList_init 25 = .ok (.arraylength, 1) := by decide +kernel
theorem d_RuleList_init_26 : decode b_RuleList_init 26 = .ok (.if_icmp .ge 22, 3) := by decide +kernel
theorem d_RuleList_init_29 : decode b_RuleList_init 29 = .ok (.aload_n 0, 1) := by decide +kernel
theorem d_RuleList_init_30 : decode b_RuleList_init 30 = .ok (.getfield 11, 3) := by decide +kernel
theorem d_RuleList_init_33 : decode b_RuleList_init 33 = .ok (.iload_n 1, 1) := by decide +kernel
theorem d_RuleList_init_34 : decode b_RuleList_init 34 = .ok (.new 9, 3) := by decide +kernel
theorem d_RuleList_init_37 : decode b_RuleList_init 37 = .ok (.dup, 1) := by decide +kernel
theorem d_RuleList_init_38 : decode b_RuleList_init 38 = .ok (.invokespecial 21, 3) := by decide +kernel
theorem d_RuleList_init_41 : decode b_RuleList_init 41 = .ok (.aastore, 1) := by decide +kernel
theorem d_RuleList_init_42 : decode b_RuleList_init 42 = .ok (.iinc 1 1, 3) := by decide +kernel
theorem d_RuleList_init_45 : decode b_RuleList_init 45 = .ok (.goto (-25), 3) := by decide +kernel
theorem d_RuleList_init_48 : decode b_RuleList_init 48 = .ok (.return_, 1) := by decide +kernel
theorem d_RuleList_take_0 : decode b_RuleList_take 0 = .ok (.aload_n 0, 1) := by decide +kernel
theorem d_RuleList_take_1 : decode b_RuleList_take 1 = .ok (.getfield 22, 3) := by decide +kernel
theorem d_RuleList_take_4 : decode b_RuleList_take 4 = .ok (.istore_n 3, 1) := by decide +kernel
theorem d_RuleList_take_5 : decode b_RuleList_take 5 = .ok (.iconst 0, 1) := by decide +kernel
theorem d_RuleList_take_6 : decode b_RuleList_take 6 = .ok (.istore 4, 2) := by decide +kernel
theorem d_RuleList_take_8 : decode b_RuleList_take 8 = .ok (.iconst 0, 1) := by decide +kernel
theorem d_RuleList_take_9 : decode b_RuleList_take 9 = .ok (.istore 5, 2) := by decide +kernel
theorem d_RuleList_take_11 : decode b_RuleList_take 11 = .ok (.aload_n 0, 1) := by decide +kernel
theorem d_RuleList_take_12 : decode b_RuleList_take 12 = .ok (.iconst (-1), 1) := by decide +kernel
theorem d_RuleList_take_13 : decode b_RuleList_take 13 = .ok (.putfield 17, 3) := by decide +kernel
theorem d_RuleList_take_16 : decode b_RuleList_take 16 = .ok (.iconst 0, 1) := by decide +kernel
theorem d_RuleList_take_17 : decode b_RuleList_take 17 = .ok (.istore 6, 2) := by decide +kernel
theorem d_RuleList_take_19 : decode b_RuleList_take 19 = .ok (.iload 6, 2) := by decide +kernel
theorem d_RuleList_take_21 : decode b_RuleList_take 21 = .ok (.aload_n 1, 1) := by decide +kernel
theorem d_RuleList_take_22 : decode b_RuleList_take 22 = .ok (.getfield 25, 3) := by decide +kernel
theorem d_RuleList_take_25 : decode b_RuleList_take 25 = .ok (.if_icmp .gt 64, 3) := by decide +kernel
theorem d_RuleList_take_28 : decode b_RuleList_take 28 = .ok (.iload 6, 2) := by decide +kernel
theorem d_RuleList_take_30 : decode b_RuleList_take 30 = .ok (.aload_n 1, 1) := by decide +kernel
theorem d_RuleList_take_31 : decode b_RuleList_take 31 = .ok (.getfield 25, 3) := by decide +kernel
theorem d_RuleList_take_34 : decode b_RuleList_take 34 = .ok (.if_icmp .eq 14, 3) := by decide +kernel
theorem d_RuleList_take_37 : decode b_RuleList_take 37 = .ok (.aload_n 1, 1) := by decide +kernel
theorem d_RuleList_take_38 : decode b_RuleList_take 38 = .ok (.iload 6, 2) := by decide +kernel
theorem d_RuleList_take_40 : decode b_RuleList_take 40 = .ok (.invokevirtual 28, 3) := by decide +kernel
theorem d_RuleList_take_43 : decode b_RuleList_take 43 = .ok (.bipush 59, 2) := by decide +kernel
theorem d_RuleList_take_45 : decode b_RuleList_take 45 = .ok (.if_icmp .ne 38, 3) := by decide +kernel
theorem d_RuleList_take_48 : decode b_RuleList_take 48 = .ok (.aload_n 0, 1) := by decide +kernel
theorem d_RuleList_take_49 : decode b_RuleList_take 49 = .ok (.aload_n 1, 1) := by decide +kernel
theorem d_RuleList_take_50 : decode b_RuleList_take 50 = .ok (.iload 4, 2) := by decide +kernel
theorem d_RuleList_take_52 : decode b_RuleList_take 52 = .ok (.iload 6, 2) := by decide +kernel
theorem d_RuleList_take_54 : decode b_RuleList_take 54 = .ok (.invokevirtual 32, 3) := by decide +kernel
theorem d_RuleList_take_57 : decode b_RuleList_take 57 = .ok (.ifCond .ne 17, 3) := by decide +kernel
theorem d_RuleList_take_60 : decode b_RuleList_take 60 = .ok (.aload_n 0, 1) := by decide +kernel
theorem d_RuleList_take_61 : decode b_RuleList_take 61 = .ok (.getfield 17, 3) := by decide +kernel
theorem d_RuleList_take_64 : decode b_RuleList_take 64 = .ok (.iconst (-1), 1) := by decide +kernel
theorem d_RuleList_take_65 : decode b_RuleList_take 65 = .ok (.if_icmp .ne 9, 3) := by decide +kernel
theorem d_RuleList_take_68 : decode b_RuleList_take 68 = .ok (.aload_n 0, 1) := by decide +kernel
theorem d_RuleList_take_69 : decode b_RuleList_take 69 = .ok (.iload 5, 2) := by decide +kernel
theorem d_RuleList_take_71 : decode b_RuleList_take 71 = .ok (.putfield 17, 3) := by decide +kernel
theorem d_RuleList_take_74 : decode b_RuleList_take 74 = .ok (.iload 6, 2) := by decide +kernel
theorem d_RuleList_take_76 : decode b_RuleList_take 76 = .ok (.iconst 1, 1) := by decide +kernel
theorem d_RuleList_take_77 : decode b_RuleList_take 77 = .ok (.iadd, 1) := by decide +kernel
theorem d_RuleList_take_78 : decode b_RuleList_take 78 = .ok (.istore 4, 2) := by decide +kernel
theorem d_RuleList_take_80 : decode b_RuleList_take 80 = .ok (.iinc 5 1, 3) := by decide +kernel
theorem d_RuleList_take_83 : decode b_RuleList_take 83 = .ok (.iinc 6 1, 3) := by decide +kernel
theorem d_RuleList_take_86 : decode b_RuleList_take 86 = .ok (.goto (-67), 3) := by decide +kernel
theorem d_RuleList_take_89 : decode b_RuleList_take 89 = .ok (.aload_n 0, 1) := by decide +kernel
theorem d_RuleList_take_90 : decode b_RuleList_take 90 = .ok (.getfield 17, 3) := by decide +kernel
theorem d_RuleList_take_93 : decode b_RuleList_take 93 = .ok (.iconst (-1), 1) := by decide +kernel
theorem d_RuleList_take_94 : decode b_RuleList_take 94 = .ok (.if_icmp .eq 7, 3) := by decide +kernel
theorem d_RuleList_take_97 : decode b_RuleList_take 97 = .ok (.iload_n 2, 1) := by decide +kernel
theorem d_RuleList_take_98 : decode b_RuleList_take 98 = .ok (.ifCond .eq 5, 3) := by decide +kernel
theorem d_RuleList_take_101 : decode b_RuleList_take 101 = .ok (.iconst 1, 1) := by decide +kernel
theorem d_RuleList_take_102 : decode b_RuleList_take 102 = .ok (.ireturn, 1) := by decide +kernel
theorem d_RuleList_take_103 : decode b_RuleList_take 103 = .ok (.aload_n 0, 1) := by decide +kernel
theorem d_RuleList_take_104 : decode b_RuleList_take 104 = .ok (.iload_n 3, 1) := by decide +kernel
theorem d_RuleList_take_105 : decode b_RuleList_take 105 = .ok (.putfield 22, 3) := by decide +kernel
theorem d_RuleList_take_108 : decode b_RuleList_take 108 = .ok (.iconst 0, 1) := by decide +kernel
theorem d_RuleList_take_109 : decode b_RuleList_take 109 = .ok (.ireturn, 1) := by decide +kernel
theorem d_RuleList_takeOne_0 : decode b_RuleList_takeOne 0 = .ok (.aload_n 0, 1) := by decide +kernel
theorem d_RuleList_takeOne_1 : decode b_RuleList_takeOne 1 = .ok (.getfield 22, 3) := by decide +kernel
theorem d_RuleList_takeOne_4 : decode b_RuleList_takeOne 4 = .ok (.aload_n 0, 1) := by decide +kernel
theorem d_RuleList_takeOne_5 : decode b_RuleList_takeOne 5 = .ok (.getfield 11, 3) := by decide +kernel
theorem d_RuleList_takeOne_8 : decode b_RuleList_takeOne 8 = .ok (.arraylength, 1) := by decide +kernel
theorem d_RuleList_takeOne_9 : decode b_RuleList_takeOne 9 = .ok (.if_icmp .lt 5, 3) := by decide +kernel
theorem d_RuleList_takeOne_12 : decode b_RuleList_takeOne 12 = .ok (.iconst 0, 1) := by decide +kernel
theorem d_RuleList_takeOne_13 : decode b_RuleList_takeOne 13 = .ok (.ireturn, 1) := by decide +kernel
theorem d_RuleList_takeOne_14 : decode b_RuleList_takeOne 14 = .ok (.aload_n 0, 1) := by decide +kernel
theorem d_RuleList_takeOne_15 : decode b_RuleList_takeOne 15 = .ok (.getfield 11, 3) := by decide +kernel
theorem d_RuleList_takeOne_18 : decode b_RuleList_takeOne 18 = .ok (.aload_n 0, 1) := by decide +kernel
theorem d_RuleList_takeOne_19 : decode b_RuleList_takeOne 19 = .ok (.getfield 22, 3) := by decide +kernel
theorem d_RuleList_takeOne_22 : decode b_RuleList_takeOne 22 = .ok (.aaload, 1) := by decide +kernel
theorem d_RuleList_takeOne_23 : decode b_RuleList_takeOne 23 = .ok (.astore 4, 2) := by decide +kernel
theorem d_RuleList_takeOne_25 : decode b_RuleList_takeOne 25 = .ok (.aload 4, 2) := by decide +kernel
theorem d_RuleList_takeOne_27 : decode b_RuleList_takeOne 27 = .ok (.aload_n 1, 1) := by decide +kernel
theorem d_RuleList_takeOne_28 : decode b_RuleList_takeOne 28 = .ok (.iload_n 2, 1) := by decide +kernel
theorem d_RuleList_takeOne_29 : decode b_RuleList_takeOne 29 = .ok (.iload_n 3, 1) := by decide +kernel
theorem d_RuleList_takeOne_30 : decode b_RuleList_takeOne 30 = .ok (.invokevirtual 36, 3) := by decide +kernel
theorem d_RuleList_takeOne_33 : decode b_RuleList_takeOne 33 = .ok (.ifCond .eq 12, 3) := by decide +kernel
theorem d_RuleList_takeOne_36 : decode b_RuleList_takeOne 36 = .ok (.aload_n 0, 1) := by decide +kernel
theorem d_RuleList_takeOne_37 : decode b_RuleList_takeOne 37 = .ok (.aload 4, 2) := by decide +kernel
theorem d_RuleList_takeOne_39 : decode b_RuleList_takeOne 39 = .ok (.invokevirtual 39, 3) := by decide +kernel
theorem d_RuleList_takeOne_42 : decode b_RuleList_takeOne 42 = .ok (.ifCond .eq 5, 3) := by decide +kernel
theorem d_RuleList_takeOne_45 : decode b_RuleList_takeOne 45 = .ok (.iconst 0, 1) := by decide +kernel
theorem d_RuleList_takeOne_46 : decode b_RuleList_takeOne 46 = .ok (.ireturn, 1) := by decide +kernel
theorem d_RuleList_takeOne_47 : decode b_RuleList_takeOne 47 = .ok (.aload_n 0, 1) := by decide +kernel
theorem d_RuleList_takeOne_48 : decode b_RuleList_takeOne 48 = .ok (.dup, 1) := by decide +kernel
theorem d_RuleList_takeOne_49 : decode b_RuleList_takeOne 49 = .ok (.getfield 22, 3) := by decide +kernel
theorem d_RuleList_takeOne_52 : decode b_RuleList_takeOne 52 = .ok (.iconst 1, 1) := by decide +kernel
theorem d_RuleList_takeOne_53 : decode b_RuleList_takeOne 53 = .ok (.iadd, 1) := by decide +kernel
theorem d_RuleList_takeOne_54 : decode b_RuleList_takeOne 54 = .ok (.putfield 22, 3) := by decide +kernel
theorem d_RuleList_takeOne_57 : decode b_RuleList_takeOne 57 = .ok (.iconst 1, 1) := by decide +kernel
theorem d_RuleList_takeOne_58 : decode b_RuleList_takeOne 58 = .ok (.ireturn, 1) := by decide +kernel
theorem d_RuleList_hasLike_0 : decode b_RuleList_hasLike 0 = .ok (.iconst 0, 1) := by decide +kernel
theorem d_RuleList_hasLike_1 : decode b_RuleList_hasLike 1 = .ok (.istore_n 2, 1) := by decide +kernel
theorem d_RuleList_hasLike_2 : decode b_RuleList_hasLike 2 = .ok (.iload_n 2, 1) := by decide +kernel
theorem d_RuleList_hasLike_3 : decode b_RuleList_hasLike 3 = .ok (.aload_n 0, 1) := by decide +kernel
theorem d_RuleList_hasLike_4 : decode b_RuleList_hasLike 4 = .ok (.getfield 22, 3) := by decide +kernel
theorem d_RuleList_hasLike_7 : decode b_RuleList_hasLike 7 = .ok (.if_icmp .ge 24, 3) := by decide +kernel
theorem d_RuleList_hasLike_10 : decode b_RuleList_hasLike 10 = .ok (.aload_n 0, 1) := by decide +kernel
theorem d_RuleList_hasLike_11 : decode b_RuleList_hasLike 11 = .ok (.getfield 11, 3) := by decide +kernel
theorem d_RuleList_hasLike_14 : decode b_RuleList_hasLike 14 = .ok (.iload_n 2, 1) := by decide +kernel
theorem d_RuleList_hasLike_15 : decode b_RuleList_hasLike 15 = .ok (.aaload, 1) := by decide +kernel
theorem d_RuleList_hasLike_16 : decode b_RuleList_hasLike 16 = .ok (.aload_n 1, 1) := by decide +kernel
theorem d_RuleList_hasLike_17 : decode b_RuleList_hasLike 17 = .ok (.invokevirtual 43, 3) := by decide +kernel
theorem d_RuleList_hasLike_20 : decode b_RuleList_hasLike 20 = .ok (.ifCond .eq 5, 3) := by decide +kernel
theorem d_RuleList_hasLike_23 : decode b_RuleList_hasLike 23 = .ok (.iconst 1, 1) := by decide +kernel
theorem d_RuleList_hasLike_24 : decode b_RuleList_hasLike 24 = .ok (.ireturn, 1) := by decide +kernel
theorem d_RuleList_hasLike_25 : decode b_RuleList_hasLike 25 = .ok (.iinc 2 1, 3) := by decide +kernel
theorem d_RuleList_hasLike_28 : decode b_RuleList_hasLike 28 = .ok (.goto (-26), 3) := by decide +kernel
theorem d_RuleList_hasLike_31 : decode b_RuleList_hasLike 31 = .ok (.iconst 0, 1) := by decide +kernel
theorem d_RuleList_hasLike_32 : decode b_RuleList_hasLike 32 = .ok (.ireturn, 1) := by decide +kernel
theorem d_Translator_init_0 : decode b_Translator_init 0 = .ok (.aload_n 0, 1) := by decide +kernel
theorem d_Translator_init_1 : decode b_Translator_init 1 = .ok (.invokespecial 3, 3) := by decide +kernel
theorem d_Translator_init_4 : decode b_Translator_init 4 = .ok (.aload_n 0, 1) := by decide +kernel
theorem d_Translator_init_5 : decode b_Translator_init 5 = .ok (.aload_n 1, 1) := by decide +kernel
theorem d_Translator_init_6 : decode b_Translator_init 6 = .ok (.putfield 9, 3) := by decide +kernel
theorem d_Translator_init_9 : decode b_Translator_init 9 = .ok (.aload_n 0, 1) := by decide +kernel
theorem d_Translator_init_10 : decode b_Translator_init 10 = .ok (.aload_n 2, 1) := by decide +kernel
theorem d_Translator_init_11 : decode b_Translator_init 11 = .ok (.putfield 15, 3) := by decide +kernel
theorem d_Translator_init_14 : decode b_Translator_init 14 = .ok (.return_, 1) := by decide +kernel
theorem d_Translator_translateInto_0 : decode b_Translator_translateInto 0 = .ok (.iconst 0, 1) := by decide +kernel
theorem d_Translator_translateInto_1 : decode b_Translator_translateInto 1 = .ok (.istore_n 2, 1) := by decide +kernel
theorem d_Translator_translateInto_2 : decode b_Translator_translateInto 2 = .ok (.iload_n 2, 1) := by decide +kernel
theorem d_Translator_translateInto_3 : decode b_Translator_translateInto 3 = .ok (.aload_n 0, 1) := by decide +kernel
theorem d_Translator_translateInto_4 : decode b_Translator_translateInto 4 = .ok (.getfield 9, 3) := by decide +kernel
theorem d_Translator_translateInto_7 : decode b_Translator_translateInto 7 = .ok (.getfield 19, 3) := by decide +kernel
theorem d_Translator_translateInto_10 : decode b_Translator_translateInto 10 = .ok (.if_icmp .ge 58, 3) := by decide +kernel
theorem d_Translator_translateInto_13 : decode b_Translator_translateInto 13 = .ok (.aload_n 0, 1) := by decide +kernel
theorem d_Translator_translateInto_14 : decode b_Translator_translateInto 14 = .ok (.getfield 9, 3) := by decide +kernel
theorem d_Translator_translateInto_17 : decode b_Translator_translateInto 17 = .ok (.iload_n 2, 1) := by decide +kernel
theorem d_Translator_translateInto_18 : decode b_Translator_translateInto 18 = .ok (.invokevirtual 25, 3) := by decide +kernel
theorem d_Translator_translateInto_21 : decode b_Translator_translateInto 21 = .ok (.invokestatic 29, 3) := by decide +kernel
theorem d_Translator_translateInto_24 : decode b_Translator_translateInto 24 = .ok (.ifCond .ne 12, 3) := by decide +kernel
theorem d_Translator_translateInto_27 : decode b_Translator_translateInto 27 = .ok (.aload_n 0, 1) := by decide +kernel
theorem d_Translator_translateInto_28 : decode b_Translator_translateInto 28 = .ok (.aload_n 1, 1) := by decide +kernel
theorem d_Translator_translateInto_29 : decode b_Translator_translateInto 29 = .ok (.iload_n 2, 1) := by decide +kernel
theorem d_Translator_translateInto_30 : decode b_Translator_translateInto 30 = .ok (.invokevirtual 35, 3) := by decide +kernel
theorem d_Translator_translateInto_33 : decode b_Translator_translateInto 33 = .ok (.goto 29, 3) := by decide +kernel
theorem d_Translator_translateInto_36 : decode b_Translator_translateInto 36 = .ok (.aload_n 0, 1) := by decide +kernel
theorem d_Translator_translateInto_37 : decode b_Translator_translateInto 37 = .ok (.getfield 9, 3) := by decide +kernel
theorem d_Translator_translateInto_40 : decode b_Translator_translateInto 40 = .ok (.iload_n 2, 1) := by decide +kernel
theorem d_Translator_translateInto_41 : decode b_Translator_translateInto 41 = .ok (.iconst 1, 1) := by decide +kernel
theorem d_Translator_translateInto_42 : decode b_Translator_translateInto 42 = .ok (.isub, 1) := by decide +kernel
theorem d_Translator_translateInto_43 : decode b_Translator_translateInto 43 = .ok (.invokevirtual 25, 3) := by decide +kernel
theorem d_Translator_translateInto_46 : decode b_Translator_translateInto 46 = .ok (.invokestatic 29, 3) := by decide +kernel
theorem d_Translator_translateInto_49 : decode b_Translator_translateInto 49 = .ok (.ifCond .ne 13, 3) := by decide +kernel
theorem d_Translator_translateInto_52 : decode b_Translator_translateInto 52 = .ok (.aload_n 0, 1) := by decide +kernel
theorem d_Translator_translateInto_53 : decode b_Translator_translateInto 53 = .ok (.iload_n 2, 1) := by decide +kernel
theorem d_Translator_translateInto_54 : decode b_Translator_translateInto 54 = .ok (.invokevirtual 39, 3) := by decide +kernel
theorem d_Translator_translateInto_57 : decode b_Translator_translateInto 57 = .ok (.aload_n 0, 1) := by decide +kernel
theorem d_Translator_translateInto_58 : decode b_Translator_translateInto 58 = .ok (.aload_n 1, 1) := by decide +kernel
theorem d_Translator_translateInto_59 : decode b_Translator_translateInto 59 = .ok (.invokevirtual 43, 3) := by decide +kernel
theorem d_Translator_translateInto_62 : decode b_Translator_translateInto 62 = .ok (.iinc 2 1, 3) := by decide +kernel
theorem d_Translator_translateInto_65 : decode b_Translator_translateInto 65 = .ok (.goto (-63), 3) := by decide +kernel
theorem d_Translator_translateInto_68 : decode b_Translator_translateInto 68 = .ok (.return_, 1) := by decide +kernel
theorem d_Translator_putSingle_0 : decode b_Translator_putSingle 0 = .ok (.aload_n 0, 1) := by decide +kernel
theorem d_Translator_putSingle_1 : decode b_Translator_putSingle 1 = .ok (.getfield 9, 3) := by decide +kernel
theorem d_Translator_putSingle_4 : decode b_Translator_putSingle 4 = .ok (.iload_n 2, 1) := by decide +kernel
theorem d_Translator_putSingle_5 : decode b_Translator_putSingle 5 = .ok (.invokevirtual 25, 3) := by decide +kernel
theorem d_Translator_putSingle_8 : decode b_Translator_putSingle 8 = .ok (.istore_n 3, 1) := by decide +kernel
theorem d_Translator_putSingle_9 : decode b_Translator_putSingle 9 = .ok (.iload_n 3, 1) := by decide +kernel
theorem d_Translator_putSingle_10 : decode b_Translator_putSingle 10 = .ok (.invokestatic 47, 3) := by decide +kernel
theorem d_Translator_putSingle_13 : decode b_Translator_putSingle 13 = .ok (.istore 4, 2) := by decide +kernel
theorem d_Translator_putSingle_15 : decode b_Translator_putSingle 15 = .ok (.iload 4, 2) := by decide +kernel
theorem d_Translator_putSingle_17 : decode b_Translator_putSingle 17 = .ok (.ifCond .eq 26, 3) := by decide +kernel
theorem d_Translator_putSingle_20 : decode b_Translator_putSingle 20 = .ok (.aload_n 0, 1) := by decide +kernel
theorem d_Translator_putSingle_21 : decode b_Translator_putSingle 21 = .ok (.getfield 9, 3) := by decide +kernel
theorem d_Translator_putSingle_24 : decode b_Translator_putSingle 24 = .ok (.iload_n 2, 1) := by decide +kernel
theorem d_Translator_putSingle_25 : decode b_Translator_putSingle 25 = .ok (.iconst 1, 1) := by decide +kernel
theorem d_Translator_putSingle_26 : decode b_Translator_putSingle 26 = .ok (.isub, 1) := by decide +kernel
theorem d_Translator_putSingle_27 : decode b_Translator_putSingle 27 = .ok (.invokevirtual 25, 3) := by decide +kernel
theorem d_Translator_putSingle_30 : decode b_Translator_putSingle 30 = .ok (.invokestatic 47, 3) := by decide +kernel
theorem d_Translator_putSingle_33 : decode b_Translator_putSingle 33 = .ok (.ifCond .ne 10, 3) := by decide +kernel
theorem d_Translator_putSingle_36 : decode b_Translator_putSingle 36 = .ok (.aload_n 1, 1) := by decide +kernel
theorem d_Translator_putSingle_37 : decode b_Translator_putSingle 37 = .ok (.bipush 60, 2) := by decide +kernel
theorem d_Translator_putSingle_39 : decode b_Translator_putSingle 39 = .ok (.iload_n 2, 1) := by decide +kernel
theorem d_Translator_putSingle_40 : decode b_Translator_putSingle 40 = .ok (.invokevirtual 50, 3) := by decide +kernel
theorem d_Translator_putSingle_43 : decode b_Translator_putSingle 43 = .ok (.aload_n 1, 1) := by decide +kernel
theorem d_Translator_putSingle_44 : decode b_Translator_putSingle 44 = .ok (.iload_n 3, 1) := by decide +kernel
theorem d_Translator_putSingle_45 : decode b_Translator_putSingle 45 = .ok (.invokestatic 56, 3) := by decide +kernel
theorem d_Translator_putSingle_48 : decode b_Translator_putSingle 48 = .ok (.iload_n 2, 1) := by decide +kernel
theorem d_Translator_putSingle_49 : decode b_Translator_putSingle 49 = .ok (.invokevirtual 50, 3) := by decide +kernel
theorem d_Translator_putSingle_52 : decode b_Translator_putSingle 52 = .ok (.iload 4, 2) := by decide +kernel
theorem d_Translator_putSingle_54 : decode b_Translator_putSingle 54 = .ok (.ifCond .eq 28, 3) := by decide +kernel
theorem d_Translator_putSingle_57 : decode b_Translator_putSingle 57 = .ok (.aload_n 0, 1) := by decide +kernel
theorem d_Translator_putSingle_58 : decode b_Translator_putSingle 58 = .ok (.getfield 9, 3) := by decide +kernel
theorem d_Translator_putSingle_61 : decode b_Translator_putSingle 61 = .ok (.iload_n 2, 1) := by decide +kernel
theorem d_Translator_putSingle_62 : decode b_Translator_putSingle 62 = .ok (.iconst 1, 1) := by decide +kernel
theorem d_Translator_putSingle_63 : decode b_Translator_putSingle 63 = .ok (.iadd, 1) := by decide +kernel
theorem d_Translator_putSingle_64 : decode b_Translator_putSingle 64 = .ok (.invokevirtual 25, 3) := by decide +kernel
theorem d_Translator_putSingle_67 : decode b_Translator_putSingle 67 = .ok (.invokestatic 60, 3) := by decide +kernel
theorem d_Translator_putSingle_70 : decode b_Translator_putSingle 70 = .ok (.ifCond .eq 12, 3) := by decide +kernel
theorem d_Translator_putSingle_73 : decode b_Translator_putSingle 73 = .ok (.aload_n 1, 1) := by decide +kernel
theorem d_Translator_putSingle_74 : decode b_Translator_putSingle 74 = .ok (.bipush 48, 2) := by decide +kernel
theorem d_Translator_putSingle_76 : decode b_Translator_putSingle 76 = .ok (.iload_n 2, 1) := by decide +kernel
theorem d_Translator_putSingle_77 : decode b_Translator_putSingle 77 = .ok (.iconst 1, 1) := by decide +kernel
theorem d_Translator_putSingle_78 : decode b_Translator_putSingle 78 = .ok (.iadd, 1) := by decide +kernel
theorem d_Translator_putSingle_79 : decode b_Translator_putSingle 79 = .ok (.invokevirtual 50, 3) := by decide +kernel
theorem d_Translator_putSingle_82 : decode b_Translator_putSingle 82 = .ok (.return_, 1) := by decide +kernel
theorem d_Translator_findWord_0 : decode b_Translator_findWord 0 = .ok (.iconst 1, 1) := by decide +kernel
theorem d_Translator_findWord_1 : decode b_Translator_findWord 1 = .ok (.istore_n 2, 1) := by decide +kernel
theorem d_Translator_findWord_2 : decode b_Translator_findWord 2 = .ok (.iload_n 1, 1) := by decide +kernel
theorem d_Translator_findWord_3 : decode b_Translator_findWord 3 = .ok (.istore_n 3, 1) := by decide +kernel
theorem d_Translator_findWord_4 : decode b_Translator_findWord 4 = .ok (.iload_n 1, 1) := by decide +kernel
theorem d_Translator_findWord_5 : decode b_Translator_findWord 5 = .ok (.istore 4, 2) := by decide +kernel
theorem d_Translator_findWord_7 : decode b_Translator_findWord 7 = .ok (.iload 4, 2) := by decide +kernel
theorem d_Translator_findWord_9 : decode b_Translator_findWord 9 = .ok (.aload_n 0, 1) := by decide +kernel
theorem d_Translator_findWord_10 : decode b_Translator_findWord 10 = .ok (.getfield 9, 3) := by decide +kernel
theorem d_Translator_findWord_13 : decode b_Translator_findWord 13 = .ok (.getfield 19, 3) := by decide +kernel
theorem d_Translator_findWord_16 : decode b_Translator_findWord 16 = .ok (.if_icmp .ge 54, 3) := by decide +kernel
theorem d_Translator_findWord_19 : decode b_Translator_findWord 19 = .ok (.aload_n 0, 1) := by decide +kernel
theorem d_Translator_findWord_20 : decode b_Translator_findWord 20 = .ok (.getfield 9, 3) := by decide +kernel
theorem d_Translator_findWord_23 : decode b_Translator_findWord 23 = .ok (.iload 4, 2) := by decide +kernel
theorem d_Translator_findWord_25 : decode b_Translator_findWord 25 = .ok (.invokevirtual 25, 3) := by decide +kernel
theorem d_Translator_findWord_28 : decode b_Translator_findWord 28 = .ok (.invokestatic 29, 3) := by decide +kernel
theorem d_Translator_findWord_31 : decode b_Translator_findWord 31 = .ok (.ifCond .eq 39, 3) := by decide +kernel
theorem d_Translator_findWord_34 : decode b_Translator_findWord 34 = .ok (.iload_n 2, 1) := by decide +kernel
theorem d_Translator_findWord_35 : decode b_Translator_findWord 35 = .ok (.ifCond .eq 22, 3) := by decide +kernel
theorem d_Translator_findWord_38 : decode b_Translator_findWord 38 = .ok (.aload_n 0, 1) := by decide +kernel
theorem d_Translator_findWord_39 : decode b_Translator_findWord 39 = .ok (.getfield 9, 3) := by decide +kernel
theorem d_Translator_findWord_42 : decode b_Translator_findWord 42 = .ok (.iload 4, 2) := by decide +kernel
theorem d_Translator_findWord_44 : decode b_Translator_findWord 44 = .ok (.invokevirtual 25, 3) := by decide +kernel
theorem d_Translator_findWord_47 : decode b_Translator_findWord 47 = .ok (.invokestatic 63, 3) := by decide +kernel
theorem d_Translator_findWord_50 : decode b_Translator_findWord 50 = .ok (.ifCond .eq 7, 3) := by decide +kernel
theorem d_Translator_findWord_53 : decode b_Translator_findWord 53 = .ok (.iconst 1, 1) := by decide +kernel
theorem d_Translator_findWord_54 : decode b_Translator_findWord 54 = .ok (.goto 4, 3) := by decide +kernel
theorem d_Translator_findWord_57 : decode b_Translator_findWord 57 = .ok (.iconst 0, 1) := by decide +kernel
theorem d_Translator_findWord_58 : decode b_Translator_findWord 58 = .ok (.istore_n 2, 1) := by decide +kernel
theorem d_Translator_findWord_59 : decode b_Translator_findWord 59 = .ok (.iload 4, 2) := by decide +kernel
theorem d_Translator_findWord_61 : decode b_Translator_findWord 61 = .ok (.iconst 1, 1) := by decide +kernel
theorem d_Translator_findWord_62 : decode b_Translator_findWord 62 = .ok (.iadd, 1) := by decide +kernel
theorem d_Translator_findWord_63 : decode b_Translator_findWord 63 = .ok (.istore_n 3, 1) := by decide +kernel
theorem d_Translator_findWord_64 : decode b_Translator_findWord 64 = .ok (.iinc 4 1, 3) := by decide +kernel
theorem d_Translator_findWord_67 : decode b_Translator_findWord 67 = .ok (.goto (-60), 3) := by decide +kernel
theorem d_Translator_findWord_70 : decode b_Translator_findWord 70 = .ok (.aload_n 0, 1) := by decide +kernel
theorem d_Translator_findWord_71 : decode b_Translator_findWord 71 = .ok (.iload_n 1, 1) := by decide +kernel
theorem d_Translator_findWord_72 : decode b_Translator_findWord 72 = .ok (.putfield 66, 3) := by decide +kernel
theorem d_Translator_findWord_75 : decode b_Translator_findWord 75 = .ok (.aload_n 0, 1) := by decide +kernel
theorem d_Translator_findWord_76 : decode b_Translator_findWord 76 = .ok (.iload_n 3, 1) := by decide +kernel
theorem d_Translator_findWord_77 : decode b_Translator_findWord 77 = .ok (.putfield 69, 3) := by decide +kernel
theorem d_Translator_findWord_80 : decode b_Translator_findWord 80 = .ok (.aload_n 0, 1) := by decide +kernel
theorem d_Translator_findWord_81 : decode b_Translator_findWord 81 = .ok (.iload_n 2, 1) := by decide +kernel
theorem d_Translator_findWord_82 : decode b_Translator_findWord 82 = .ok (.ifCond .eq 14, 3) := by decide +kernel
theorem d_Translator_findWord_85 : decode b_Translator_findWord 85 = .ok (.iload_n 3, 1) := by decide +kernel
theorem d_Translator_findWord_86 : decode b_Translator_findWord 86 = .ok (.iload_n 1, 1) := by decide +kernel
theorem d_Translator_findWord_87 : decode b_Translator_findWord 87 = .ok (.isub, 1) := by decide +kernel
theorem d_Translator_findWord_88 : decode b_Translator_findWord 88 = .ok (.iconst 2, 1) := by decide +kernel
theorem d_Translator_findWord_89 : decode b_Translator_findWord 89 = .ok (.if_icmp .lt 7, 3) := by decide +kernel
theorem d_Translator_findWord_92 : decode b_Translator_findWord 92 = .ok (.iconst 1, 1) := by decide +kernel
theorem d_Translator_findWord_93 : decode b_Translator_findWord 93 = .ok (.goto 4, 3) := by decide +kernel
theorem d_Translator_findWord_96 : decode b_Translator_findWord 96 = .ok (.iconst 0, 1) := by decide +kernel
theorem d_Translator_findWord_97 : decode b_Translator_findWord 97 = .ok (.putfield 72, 3) := by decide +kernel
theorem d_Translator_findWord_100 : decode b_Translator_findWord 100 = .ok (.return_, 1) := by decide +kernel
theorem d_Translator_putWord_0 : decode b_Translator_putWord 0 = .ok (.aload_n 0, 1) := by decide +kernel
theorem d_Translator_putWord_1 : decode b_Translator_putWord 1 = .ok (.getfield 72, 3) := by decide +kernel
theorem d_Translator_putWord_4 : decode b_Translator_putWord 4 = .ok (.ifCond .eq 23, 3) := by decide +kernel
theorem d_Translator_putWord_7 : decode b_Translator_putWord 7 = .ok (.aload_n 1, 1) := by decide +kernel
theorem d_Translator_putWord_8 : decode b_Translator_putWord 8 = .ok (.bipush 32, 2) := by decide +kernel
theorem d_Translator_putWord_10 : decode b_Translator_putWord 10 = .ok (.aload_n 0, 1) := by decide +kernel
theorem d_Translator_putWord_11 : decode b_Translator_putWord 11 = .ok (.getfield 66, 3) := by decide +kernel
theorem d_Translator_putWord_14 : decode b_Translator_putWord 14 = .ok (.invokevirtual 50, 3) := by decide +kernel
theorem d_Translator_putWord_17 : decode b_Translator_putWord 17 = .ok (.aload_n 1, 1) := by decide +kernel
theorem d_Translator_putWord_18 : decode b_Translator_putWord 18 = .ok (.bipush 32, 2) := by decide +kernel
theorem d_Translator_putWord_20 : decode b_Translator_putWord 20 = .ok (.aload_n 0, 1) := by decide +kernel
theorem d_Translator_putWord_21 : decode b_Translator_putWord 21 = .ok (.getfield 66, 3) := by decide +kernel
theorem d_Translator_putWord_24 : decode b_Translator_putWord 24 = .ok (.invokevirtual 50, 3) := by decide +kernel
theorem d_Translator_putWord_27 : decode b_Translator_putWord 27 = .ok (.aload_n 0, 1) := by decide +kernel
theorem d_Translator_putWord_28 : decode b_Translator_putWord 28 = .ok (.getfield 66, 3) := by decide +kernel
theorem d_Translator_putWord_31 : decode b_Translator_putWord 31 = .ok (.istore_n 2, 1) := by decide +kernel
theorem d_Translator_putWord_32 : decode b_Translator_putWord 32 = .ok (.aload_n 0, 1) := by decide +kernel
theorem d_Translator_putWord_33 : decode b_Translator_putWord 33 = .ok (.getfield 66, 3) := by decide +kernel
theorem d_Translator_putWord_36 : decode b_Translator_putWord 36 = .ok (.istore_n 3, 1) := by decide +kernel
theorem d_Translator_putWord_37 : decode b_Translator_putWord 37 = .ok (.iload_n 3, 1) := by decide +kernel
theorem d_Translator_putWord_38 : decode b_Translator_putWord 38 = .ok (.aload_n 0, 1) := by decide +kernel
theorem d_Translator_putWord_39 : decode b_Translator_putWord 39 = .ok (.getfield 69, 3) := by decide +kernel
theorem d_Translator_putWord_42 : decode b_Translator_putWord 42 = .ok (.if_icmp .ge 23, 3) := by decide +kernel
theorem d_Translator_putWord_45 : decode b_Translator_putWord 45 = .ok (.iload_n 3, 1) := by decide +kernel
theorem d_Translator_putWord_46 : decode b_Translator_putWord 46 = .ok (.iload_n 2, 1) := by decide +kernel
theorem d_Translator_putWord_47 : decode b_Translator_putWord 47 = .ok (.if_icmp .ne 12, 3) := by decide +kernel
theorem d_Translator_putWord_50 : decode b_Translator_putWord 50 = .ok (.iload_n 3, 1) := by decide +kernel
theorem d_Translator_putWord_51 : decode b_Translator_putWord 51 = .ok (.aload_n 0, 1) := by decide +kernel
theorem d_Translator_putWord_52 : decode b_Translator_putWord 52 = .ok (.aload_n 1, 1) := by decide +kernel
theorem d_Translator_putWord_53 : decode b_Translator_putWord 53 = .ok (.iload_n 3, 1) := by decide +kernel
theorem d_Translator_putWord_54 : decode b_Translator_putWord 54 = .ok (.invokevirtual 76, 3) := by decide +kernel
theorem d_Translator_putWord_57 : decode b_Translator_putWord 57 = .ok (.iadd, 1) := by decide +kernel
theorem d_Translator_putWord_58 : decode b_Translator_putWord 58 = .ok (.istore_n 2, 1) := by decide +kernel
theorem d_Translator_putWord_59 : decode b_Translator_putWord 59 = .ok (.iinc 3 1, 3) := by decide +kernel
theorem d_Translator_putWord_62 : decode b_Translator_putWord 62 = .ok (.goto (-25), 3) := by decide +kernel
theorem d_Translator_putWord_65 : decode b_Translator_putWord 65 = .ok (.return_, 1) := by decide +kernel
theorem d_Translator_putLettersAt_0 : decode b_Translator_putLettersAt 0 = .ok (.aload_n 0, 1) := by decide +kernel
theorem d_Translator_putLettersAt_1 : decode b_Translator_putLettersAt 1 = .ok (.getfield 9, 3) := by decide +kernel
theorem d_Translator_putLettersAt_4 : decode b_Translator_putLettersAt 4 = .ok (.iload_n 2, 1) := by decide +kernel
theorem d_Translator_putLettersAt_5 : decode b_Translator_putLettersAt 5 = .ok (.invokevirtual 25, 3) := by decide +kernel
theorem d_Translator_putLettersAt_8 : decode b_Translator_putLettersAt 8 = .ok (.istore_n 3, 1) := by decide +kernel
theorem d_Translator_putLettersAt_9 : decode b_Translator_putLettersAt 9 = .ok (.aload_n 0, 1) := by decide +kernel
theorem d_Translator_putLettersAt_10 : decode b_Translator_putLettersAt 10 = .ok (.getfield 72, 3) := by decide +kernel
theorem d_Translator_putLettersAt_13 : decode b_Translator_putLettersAt 13 = .ok (.ifCond .ne 17, 3) := by decide +kernel
theorem d_Translator_putLettersAt_16 : decode b_Translator_putLettersAt 16 = .ok (.iload_n 3, 1) := by decide +kernel
theorem d_Translator_putLettersAt_17 : decode b_Translator_putLettersAt 17 = .ok (.invokestatic 63, 3) := by decide +kernel
theorem d_Translator_putLettersAt_20 : decode b_Translator_putLettersAt 20 = .ok (.ifCond .eq 10, 3) := by decide +kernel
theorem d_Translator_putLettersAt_23 : decode b_Translator_putLettersAt 23 = .ok (.aload_n 1, 1) := by decide +kernel
theorem d_Translator_putLettersAt_24 : decode b_Translator_putLettersAt 24 = .ok (.bipush 32, 2) := by decide +kernel
theorem d_Translator_putLettersAt_26 : decode b_Translator_putLettersAt 26 = .ok (.iload_n 2, 1) := by decide +kernel
theorem d_Translator_putLettersAt_27 : decode b_Translator_putLettersAt 27 = .ok (.invokevirtual 50, 3) := by decide +kernel
theorem d_Translator_putLettersAt_30 : decode b_Translator_putLettersAt 30 = .ok (.aload_n 0, 1) := by decide +kernel
theorem d_Translator_putLettersAt_31 : decode b_Translator_putLettersAt 31 = .ok (.iload_n 2, 1) := by decide +kernel
theorem d_Translator_putLettersAt_32 : decode b_Translator_putLettersAt 32 = .ok (.invokevirtual 80, 3) := by decide +kernel
theorem d_Translator_putLettersAt_35 : decode b_Translator_putLettersAt 35 = .ok (.astore 4, 2) := by decide +kernel
theorem d_Translator_putLettersAt_37 : decode b_Translator_putLettersAt 37 = .ok (.aload 4, 2) := by decide +kernel
theorem d_Translator_putLettersAt_39 : decode b_Translator_putLettersAt 39 = .ok (.ifnonnull 14, 3) := by decide +kernel
theorem d_Translator_putLettersAt_42 : decode b_Translator_putLettersAt 42 = .ok (.aload_n 1, 1) := by decide +kernel
theorem d_Translator_putLettersAt_43 : decode b_Translator_putLettersAt 43 = .ok (.iload_n 3, 1) := by decide +kernel
theorem d_Translator_putLettersAt_44 : decode b_Translator_putLettersAt 44 = .ok (.invokestatic 56, 3) := by decide +kernel
theorem d_Translator_putLettersAt_47 : decode b_Translator_putLettersAt 47 = .ok (.iload_n 2, 1) := by decide +kernel
theorem d_Translator_putLettersAt_48 : decode b_Translator_putLettersAt 48 = .ok (.invokevirtual 50, 3) := by decide +kernel
theorem d_Translator_putLettersAt_51 : decode b_Translator_putLettersAt 51 = .ok (.iconst 1, 1) := by decide +kernel
theorem d_Translator_putLettersAt_52 : decode b_Translator_putLettersAt 52 = .ok (.ireturn, 1) := by decide +kernel
theorem d_Translator_putLettersAt_53 : decode b_Translator_putLettersAt 53 = .ok (.iconst 0, 1) := by decide +kernel
theorem d_Translator_putLettersAt_54 : decode b_Translator_putLettersAt 54 = .ok (.istore 5, 2) := by decide +kernel
theorem d_Translator_putLettersAt_56 : decode b_Translator_putLettersAt 56 = .ok (.iload 5, 2) := by decide +kernel
theorem d_Translator_putLettersAt_58 : decode b_Translator_putLettersAt 58 = .ok (.aload 4, 2) := by decide +kernel
theorem d_Translator_putLettersAt_60 : decode b_Translator_putLettersAt 60 = .ok (.getfield 84, 3) := by decide +kernel
theorem d_Translator_putLettersAt_63 : decode b_Translator_putLettersAt 63 = .ok (.if_icmp .ge 22, 3) := by decide +kernel
theorem d_Translator_putLettersAt_66 : decode b_Translator_putLettersAt 66 = .ok (.aload_n 1, 1) := by decide +kernel
theorem d_Translator_putLettersAt_67 : decode b_Translator_putLettersAt 67 = .ok (.aload 4, 2) := by decide +kernel
theorem d_Translator_putLettersAt_69 : decode b_Translator_putLettersAt 69 = .ok (.getfield 89, 3) := by decide +kernel
theorem d_Translator_putLettersAt_72 : decode b_Translator_putLettersAt 72 = .ok (.iload 5, 2) := by decide +kernel
theorem d_Translator_putLettersAt_74 : decode b_Translator_putLettersAt 74 = .ok (.iaload, 1) := by decide +kernel
theorem d_Translator_putLettersAt_75 : decode b_Translator_putLettersAt 75 = .ok (.iload_n 2, 1) := by decide +kernel
theorem d_Translator_putLettersAt_76 : decode b_Translator_putLettersAt 76 = .ok (.invokevirtual 50, 3) := by decide +kernel
theorem d_Translator_putLettersAt_79 : decode b_Translator_putLettersAt 79 = .ok (.iinc 5 1, 3) := by decide +kernel
theorem d_Translator_putLettersAt_82 : decode b_Translator_putLettersAt 82 = .ok (.goto (-26), 3) := by decide +kernel
theorem d_Translator_putLettersAt_85 : decode b_Translator_putLettersAt 85 = .ok (.aload 4, 2) := by decide +kernel
theorem d_Translator_putLettersAt_87 : decode b_Translator_putLettersAt 87 = .ok (.getfield 93, 3) := by decide +kernel
theorem d_Translator_putLettersAt_90 : decode b_Translator_putLettersAt 90 = .ok (.ireturn, 1) := by decide +kernel
theorem d_Translator_ruleAt_0 : decode b_Translator_ruleAt 0 = .ok (.aconst_null, 1) := by decide +kernel
theorem d_Translator_ruleAt_1 : decode b_Translator_ruleAt 1 = .ok (.astore_n 2, 1) := by decide +kernel
theorem d_Translator_ruleAt_2 : decode b_Translator_ruleAt 2 = .ok (.iconst 0, 1) := by decide +kernel
theorem d_Translator_ruleAt_3 : decode b_Translator_ruleAt 3 = .ok (.istore_n 3, 1) := by decide +kernel
theorem d_Translator_ruleAt_4 : decode b_Translator_ruleAt 4 = .ok (.iload_n 3, 1) := by decide +kernel
theorem d_Translator_ruleAt_5 : decode b_Translator_ruleAt 5 = .ok (.aload_n 0, 1) := by decide +kernel
theorem d_Translator_ruleAt_6 : decode b_Translator_ruleAt 6 = .ok (.getfield 15, 3) := by decide +kernel
theorem d_Translator_ruleAt_9 : decode b_Translator_ruleAt 9 = .ok (.getfield 96, 3) := by decide +kernel
theorem d_Translator_ruleAt_12 : decode b_Translator_ruleAt 12 = .ok (.if_icmp .ge 93, 3) := by decide +kernel
theorem d_Translator_ruleAt_15 : decode b_Translator_ruleAt 15 = .ok (.aload_n 0, 1) := by decide +kernel
theorem d_Translator_ruleAt_16 : decode b_Translator_ruleAt 16 = .ok (.getfield 15, 3) := by decide +kernel
theorem d_Translator_ruleAt_19 : decode b_Translator_ruleAt 19 = .ok (.getfield 99, 3) := by decide +kernel
theorem d_Translator_ruleAt_22 : decode b_Translator_ruleAt 22 = .ok (.iload_n 3, 1) := by decide +kernel
theorem d_Translator_ruleAt_23 : decode b_Translator_ruleAt 23 = .ok (.aaload, 1) := by decide +kernel
theorem d_Translator_ruleAt_24 : decode b_Translator_ruleAt 24 = .ok (.astore 4, 2) := by decide +kernel
theorem d_Translator_ruleAt_26 : decode b_Translator_ruleAt 26 = .ok (.aload 4, 2) := by decide +kernel
theorem d_Translator_ruleAt_28 : decode b_Translator_ruleAt 28 = .ok (.aload_n 0, 1) := by decide +kernel
theorem d_Translator_ruleAt_29 : decode b_Translator_ruleAt 29 = .ok (.getfield 9, 3) := by decide +kernel
theorem d_Translator_ruleAt_32 : decode b_Translator_ruleAt 32 = .ok (.iload_n 1, 1) := by decide +kernel
theorem d_Translator_ruleAt_33 : decode b_Translator_ruleAt 33 = .ok (.aload_n 0, 1) := by decide +kernel
theorem d_Translator_ruleAt_34 : decode b_Translator_ruleAt 34 = .ok (.getfield 72, 3) := by decide +kernel
theorem d_Translator_ruleAt_37 : decode b_Translator_ruleAt 37 = .ok (.invokevirtual 103, 3) := by decide +kernel
theorem d_Translator_ruleAt_40 : decode b_Translator_ruleAt 40 = .ok (.ifCond .eq 59, 3) := by decide +kernel
theorem d_Translator_ruleAt_43 : decode b_Translator_ruleAt 43 = .ok (.aload 4, 2) := by decide +kernel
theorem d_Translator_ruleAt_45 : decode b_Translator_ruleAt 45 = .ok (.iload_n 1, 1) := by decide +kernel
theorem d_Translator_ruleAt_46 : decode b_Translator_ruleAt 46 = .ok (.aload_n 0, 1) := by decide +kernel
theorem d_Translator_ruleAt_47 : decode b_Translator_ruleAt 47 = .ok (.getfield 66, 3) := by decide +kernel
theorem d_Translator_ruleAt_50 : decode b_Translator_ruleAt 50 = .ok (.if_icmp .ne 7, 3) := by decide +kernel
theorem d_Translator_ruleAt_53 : decode b_Translator_ruleAt 53 = .ok (.iconst 1, 1) := by decide +kernel
theorem d_Translator_ruleAt_54 : decode b_Translator_ruleAt 54 = .ok (.goto 4, 3) := by decide +kernel
theorem d_Translator_ruleAt_57 : decode b_Translator_ruleAt 57 = .ok (.iconst 0, 1) := by decide +kernel
theorem d_Translator_ruleAt_58 : decode b_Translator_ruleAt 58 = .ok (.iload_n 1, 1) := by decide +kernel
theorem d_Translator_ruleAt_59 : decode b_Translator_ruleAt 59 = .ok (.aload 4, 2) := by decide +kernel
theorem d_Translator_ruleAt_61 : decode b_Translator_ruleAt 61 = .ok (.getfield 93, 3) := by decide +kernel
theorem d_Translator_ruleAt_64 : decode b_Translator_ruleAt 64 = .ok (.iadd, 1) := by decide +kernel
theorem d_Translator_ruleAt_65 : decode b_Translator_ruleAt 65 = .ok (.aload_n 0, 1) := by decide +kernel
theorem d_Translator_ruleAt_66 : decode b_Translator_ruleAt 66 = .ok (.getfield 69, 3) := by decide +kernel
theorem d_Translator_ruleAt_69 : decode b_Translator_ruleAt 69 = .ok (.if_icmp .ne 7, 3) := by decide +kernel
theorem d_Translator_ruleAt_72 : decode b_Translator_ruleAt 72 = .ok (.iconst 1, 1) := by decide +kernel
theorem d_Translator_ruleAt_73 : decode b_Translator_ruleAt 73 = .ok (.goto 4, 3) := by decide +kernel
theorem d_Translator_ruleAt_76 : decode b_Translator_ruleAt 76 = .ok (.iconst 0, 1) := by decide +kernel
theorem d_Translator_ruleAt_77 : decode b_Translator_ruleAt 77 = .ok (.invokevirtual 107, 3) := by decide +kernel
theorem d_Translator_ruleAt_80 : decode b_Translator_ruleAt 80 = .ok (.ifCond .eq 19, 3) := by decide +kernel
theorem d_Translator_ruleAt_83 : decode b_Translator_ruleAt 83 = .ok (.aload_n 2, 1) := by decide +kernel
theorem d_Translator_ruleAt_84 : decode b_Translator_ruleAt 84 = .ok (.ifnull 12, 3) := by decide +kernel
theorem d_Translator_ruleAt_87 : decode b_Translator_ruleAt 87 = .ok (.aload 4, 2) := by decide +kernel
theorem d_Translator_ruleAt_89 : decode b_Translator_ruleAt 89 = .ok (.aload_n 2, 1) := by decide +kernel
theorem d_Translator_ruleAt_90 : decode b_Translator_ruleAt 90 = .ok (.invokestatic 111, 3) := by decide +kernel
theorem d_Translator_ruleAt_93 : decode b_Translator_ruleAt 93 = .ok (.ifCond .eq 6, 3) := by decide +kernel
theorem d_Translator_ruleAt_96 : decode b_Translator_ruleAt 96 = .ok (.aload 4, 2) := by decide +kernel
theorem d_Translator_ruleAt_98 : decode b_Translator_ruleAt 98 = .ok (.astore_n 2, 1) := by decide +kernel
theorem d_Translator_ruleAt_99 : decode b_Translator_ruleAt 99 = .ok (.iinc 3 1, 3) := by decide +kernel
theorem d_Translator_ruleAt_102 : decode b_Translator_ruleAt 102 = .ok (.goto (-98), 3) := by decide +kernel
theorem d_Translator_ruleAt_105 : decode b_Translator_ruleAt 105 = .ok (.aload_n 2, 1) := by decide +kernel
theorem d_Translator_ruleAt_106 : decode b_Translator_ruleAt 106 = .ok (.areturn, 1) := by decide +kernel
theorem d_Translator_isBetter_0 : decode b_Translator_isBetter 0 = .ok (.aload_n 0, 1) := by decide +kernel
theorem d_Translator_isBetter_1 : decode b_Translator_isBetter 1 = .ok (.getfield 93, 3) := by decide +kernel
theorem d_Translator_isBetter_4 : decode b_Translator_isBetter 4 = .ok (.aload_n 1, 1) := by decide +kernel
theorem d_Translator_isBetter_5 : decode b_Translator_isBetter 5 = .ok (.getfield 93, 3) := by decide +kernel
theorem d_Translator_isBetter_8 : decode b_Translator_isBetter 8 = .ok (.if_icmp .gt 25, 3) := by decide +kernel
theorem d_Translator_isBetter_11 : decode b_Translator_isBetter 11 = .ok (.aload_n 0, 1) := by decide +kernel
theorem d_Translator_isBetter_12 : decode b_Translator_isBetter 12 = .ok (.getfield 93, 3) := by decide +kernel
theorem d_Translator_isBetter_15 : decode b_Translator_isBetter 15 = .ok (.aload_n 1, 1) := by decide +kernel
theorem d_Translator_isBetter_16 : decode b_Translator_isBetter 16 = .ok (.getfield 93, 3) := by decide +kernel
theorem d_Translator_isBetter_19 : decode b_Translator_isBetter 19 = .ok (.if_icmp .ne 18, 3) := by decide +kernel
theorem d_Translator_isBetter_22 : decode b_Translator_isBetter 22 = .ok (.aload_n 0, 1) := by decide +kernel
theorem d_Translator_isBetter_23 : decode b_Translator_isBetter 23 = .ok (.getfield 115, 3) := by decide +kernel
theorem d_Translator_isBetter_26 : decode b_Translator_isBetter 26 = .ok (.aload_n 1, 1) := by decide +kernel
theorem d_Translator_isBetter_27 : decode b_Translator_isBetter 27 = .ok (.getfield 115, 3) := by decide +kernel
theorem d_Translator_isBetter_30 : decode b_Translator_isBetter 30 = .ok (.if_icmp .ge 7, 3) := by decide +kernel
theorem d_Translator_isBetter_33 : decode b_Translator_isBetter 33 = .ok (.iconst 1, 1) := by decide +kernel
theorem d_Translator_isBetter_34 : decode b_Translator_isBetter 34 = .ok (.goto 4, 3) := by decide +kernel
theorem d_Translator_isBetter_37 : decode b_Translator_isBetter 37 = .ok (.iconst 0, 1) := by decide +kernel
theorem d_Translator_isBetter_38 : decode b_Translator_isBetter 38 = .ok (.ireturn, 1) := by decide +kernel
theorem d_Typed_init_0 : decode b_Typed_init 0 = .ok (.aload_n 0, 1) := by decide +kernel
theorem d_Typed_init_1 : decode b_Typed_init 1 = .ok (.invokespecial 3, 3) := by decide +kernel
theorem d_Typed_init_4 : decode b_Typed_init 4 = .ok (.aload_n 0, 1) := by decide +kernel
theorem d_Typed_init_5 : decode b_Typed_init 5 = .ok (.bipush 80, 2) := by decide +kernel
theorem d_Typed_init_7 : decode b_Typed_init 7 = .ok (.newarray .char, 2) := by decide +kernel
theorem d_Typed_init_9 : decode b_Typed_init 9 = .ok (.putfield 9, 3) := by decide +kernel
theorem d_Typed_init_12 : decode b_Typed_init 12 = .ok (.return_, 1) := by decide +kernel
theorem d_Typed_put_0 : decode b_Typed_put 0 = .ok (.aload_n 0, 1) := by decide +kernel
theorem d_Typed_put_1 : decode b_Typed_put 1 = .ok (.getfield 15, 3) := by decide +kernel
theorem d_Typed_put_4 : decode b_Typed_put 4 = .ok (.aload_n 0, 1) := by decide +kernel
theorem d_Typed_put_5 : decode b_Typed_put 5 = .ok (.getfield 9, 3) := by decide +kernel
theorem d_Typed_put_8 : decode b_Typed_put 8 = .ok (.arraylength, 1) := by decide +kernel
theorem d_Typed_put_9 : decode b_Typed_put 9 = .ok (.if_icmp .ge 23, 3) := by decide +kernel
theorem d_Typed_put_12 : decode b_Typed_put 12 = .ok (.aload_n 0, 1) := by decide +kernel
theorem d_Typed_put_13 : decode b_Typed_put 13 = .ok (.getfield 9, 3) := by decide +kernel
theorem d_Typed_put_16 : decode b_Typed_put 16 = .ok (.aload_n 0, 1) := by decide +kernel
theorem d_Typed_put_17 : decode b_Typed_put 17 = .ok (.getfield 15, 3) := by decide +kernel
theorem d_Typed_put_20 : decode b_Typed_put 20 = .ok (.iload_n 1, 1) := by decide +kernel
theorem d_Typed_put_21 : decode b_Typed_put 21 = .ok (.castore, 1) := by decide +kernel
theorem d_Typed_put_22 : decode b_Typed_put 22 = .ok (.aload_n 0, 1) := by decide +kernel
theorem d_Typed_put_23 : decode b_Typed_put 23 = .ok (.dup, 1) := by decide +kernel
theorem d_Typed_put_24 : decode b_Typed_put 24 = .ok (.getfield 15, 3) := by decide +kernel
theorem d_Typed_put_27 : decode b_Typed_put 27 = .ok (.iconst 1, 1) := by decide +kernel
theorem d_Typed_put_28 : decode b_Typed_put 28 = .ok (.iadd, 1) := by decide +kernel
theorem d_Typed_put_29 : decode b_Typed_put 29 = .ok (.putfield 15, 3) := by decide +kernel
theorem d_Typed_put_32 : decode b_Typed_put 32 = .ok (.return_, 1) := by decide +kernel
theorem d_Typed_characterAt_0 : decode b_Typed_characterAt 0 = .ok (.iload_n 1, 1) := by decide +kernel
theorem d_Typed_characterAt_1 : decode b_Typed_characterAt 1 = .ok (.ifCond .lt 20, 3) := by decide +kernel
theorem d_Typed_characterAt_4 : decode b_Typed_characterAt 4 = .ok (.iload_n 1, 1) := by decide +kernel
theorem d_Typed_characterAt_5 : decode b_Typed_characterAt 5 = .ok (.aload_n 0, 1) := by decide +kernel
theorem d_Typed_characterAt_6 : decode b_Typed_characterAt 6 = .ok (.getfield 15, 3) := by decide +kernel
theorem d_Typed_characterAt_9 : decode b_Typed_characterAt 9 = .ok (.if_icmp .ge 12, 3) := by decide +kernel
theorem d_Typed_characterAt_12 : decode b_Typed_characterAt 12 = .ok (.aload_n 0, 1) := by decide +kernel
theorem d_Typed_characterAt_13 : decode b_Typed_characterAt 13 = .ok (.getfield 9, 3) := by decide +kernel
theorem d_Typed_characterAt_16 : decode b_Typed_characterAt 16 = .ok (.iload_n 1, 1) := by decide +kernel
theorem d_Typed_characterAt_17 : decode b_Typed_characterAt 17 = .ok (.caload, 1) := by decide +kernel
theorem d_Typed_characterAt_18 : decode b_Typed_characterAt 18 = .ok (.goto 4, 3) := by decide +kernel
theorem d_Typed_characterAt_21 : decode b_Typed_characterAt 21 = .ok (.iconst 0, 1) := by decide +kernel
theorem d_Typed_characterAt_22 : decode b_Typed_characterAt 22 = .ok (.ireturn, 1) := by decide +kernel
theorem d_Typed_canBeTranslated_0 : decode b_Typed_canBeTranslated 0 = .ok (.iconst 0, 1) := by decide +kernel
theorem d_Typed_canBeTranslated_1 : decode b_Typed_canBeTranslated 1 = .ok (.istore_n 1, 1) := by decide +kernel
theorem d_Typed_canBeTranslated_2 : decode b_Typed_canBeTranslated 2 = .ok (.iload_n 1, 1) := by decide +kernel
theorem d_Typed_canBeTranslated_3 : decode b_Typed_canBeTranslated 3 = .ok (.aload_n 0, 1) := by decide +kernel
theorem d_Typed_canBeTranslated_4 : decode b_Typed_canBeTranslated 4 = .ok (.getfield 15, 3) := by decide +kernel
theorem d_Typed_canBeTranslated_7 : decode b_Typed_canBeTranslated 7 = .ok (.if_icmp .ge 23, 3) := by decide +kernel
theorem d_Typed_canBeTranslated_10 : decode b_Typed_canBeTranslated 10 = .ok (.aload_n 0, 1) := by decide +kernel
theorem d_Typed_canBeTranslated_11 : decode b_Typed_canBeTranslated 11 = .ok (.getfield 9, 3) := by decide +kernel
theorem d_Typed_canBeTranslated_14 : decode b_Typed_canBeTranslated 14 = .ok (.iload_n 1, 1) := by decide +kernel
theorem d_Typed_canBeTranslated_15 : decode b_Typed_canBeTranslated 15 = .ok (.caload, 1) := by decide +kernel
theorem d_Typed_canBeTranslated_16 : decode b_Typed_canBeTranslated 16 = .ok (.invokestatic 19, 3) := by decide +kernel
theorem d_Typed_canBeTranslated_19 : decode b_Typed_canBeTranslated 19 = .ok (.ifCond .ne 5, 3) := by decide +kernel
theorem d_Typed_canBeTranslated_22 : decode b_Typed_canBeTranslated 22 = .ok (.iconst 0, 1) := by decide +kernel
theorem d_Typed_canBeTranslated_23 : decode b_Typed_canBeTranslated 23 = .ok (.ireturn, 1) := by decide +kernel
theorem d_Typed_canBeTranslated_24 : decode b_Typed_canBeTranslated 24 = .ok (.iinc 1 1, 3) := by decide +kernel
theorem d_Typed_canBeTranslated_27 : decode b_Typed_canBeTranslated 27 = .ok (.goto (-25), 3) := by decide +kernel
theorem d_Typed_canBeTranslated_30 : decode b_Typed_canBeTranslated 30 = .ok (.iconst 1, 1) := by decide +kernel
theorem d_Typed_canBeTranslated_31 : decode b_Typed_canBeTranslated 31 = .ok (.ireturn, 1) := by decide +kernel
end
section
theorem d_DotBook_init_0 : decode b_DotBook_init 0 = .ok (.aload_n 0, 1) := by decide +kernel
theorem d_DotBook_init_1 : decode b_DotBook_init 1 = .ok (.invokespecial 3, 3) := by decide +kernel
theorem d_DotBook_init_4 : decode b_DotBook_init 4 = .ok (.aload_n 0, 1) := by decide +kernel
theorem d_DotBook_init_5 : decode b_DotBook_init 5 = .ok (.new 9, 3) := by decide +kernel
theorem d_DotBook_init_8 : decode b_DotBook_init 8 = .ok (.dup, 1) := by decide +kernel
theorem d_DotBook_init_9 : decode b_DotBook_init 9 = .ok (.invokespecial 11, 3) := by decide +kernel
theorem d_DotBook_init_12 : decode b_DotBook_init 12 = .ok (.putfield 12, 3) := by decide +kernel
theorem d_DotBook_init_15 : decode b_DotBook_init 15 = .ok (.aload_n 0, 1) := by decide +kernel
theorem d_DotBook_init_16 : decode b_DotBook_init 16 = .ok (.new 16, 3) := by decide +kernel
theorem d_DotBook_init_19 : decode b_DotBook_init 19 = .ok (.dup, 1) := by decide +kernel
theorem d_DotBook_init_20 : decode b_DotBook_init 20 = .ok (.invokespecial 18, 3) := by decide +kernel
theorem d_DotBook_init_23 : decode b_DotBook_init 23 = .ok (.putfield 19, 3) := by decide +kernel
theorem d_DotBook_init_26 : decode b_DotBook_init 26 = .ok (.aload_n 0, 1) := by decide +kernel
theorem d_DotBook_init_27 : decode b_DotBook_init 27 = .ok (.new 23, 3) := by decide +kernel
theorem d_DotBook_init_30 : decode b_DotBook_init 30 = .ok (.dup, 1) := by decide +kernel
theorem d_DotBook_init_31 : decode b_DotBook_init 31 = .ok (.aload_n 0, 1) := by decide +kernel
theorem d_DotBook_init_32 : decode b_DotBook_init 32 = .ok (.getfield 12, 3) := by decide +kernel
theorem d_DotBook_init_35 : decode b_DotBook_init 35 = .ok (.aload_n 0, 1) := by decide +kernel
theorem d_DotBook_init_36 : decode b_DotBook_init 36 = .ok (.getfield 19, 3) := by decide +kernel
theorem d_DotBook_init_39 : decode b_DotBook_init 39 = .ok (.invokespecial 25, 3) := by decide +kernel
theorem d_DotBook_init_42 : decode b_DotBook_init 42 = .ok (.putfield 28, 3) := by decide +kernel
theorem d_DotBook_init_45 : decode b_DotBook_init 45 = .ok (.aload_n 0, 1) := by decide +kernel
theorem d_DotBook_init_46 : decode b_DotBook_init 46 = .ok (.new 32, 3) := by decide +kernel
theorem d_DotBook_init_49 : decode b_DotBook_init 49 = .ok (.dup, 1) := by decide +kernel
theorem d_DotBook_init_50 : decode b_DotBook_init 50 = .ok (.aload_n 0, 1) := by decide +kernel
theorem d_DotBook_init_51 : decode b_DotBook_init 51 = .ok (.getfield 19, 3) := by decide +kernel
theorem d_DotBook_init_54 : decode b_DotBook_init 54 = .ok (.invokespecial 34, 3) := by decide +kernel
theorem d_DotBook_init_57 : decode b_DotBook_init 57 = .ok (.putfield 37, 3) := by decide +kernel
theorem d_DotBook_init_60 : decode b_DotBook_init 60 = .ok (.aload_n 0, 1) := by decide +kernel
theorem d_DotBook_init_61 : decode b_DotBook_init 61 = .ok (.new 41, 3) := by decide +kernel
theorem d_DotBook_init_64 : decode b_DotBook_init 64 = .ok (.dup, 1) := by decide +kernel
theorem d_DotBook_init_65 : decode b_DotBook_init 65 = .ok (.bipush 10, 2) := by decide +kernel
theorem d_DotBook_init_67 : decode b_DotBook_init 67 = .ok (.bipush 40, 2) := by decide +kernel
theorem d_DotBook_init_69 : decode b_DotBook_init 69 = .ok (.iload_n 1, 1) := by decide +kernel
theorem d_DotBook_init_70 : decode b_DotBook_init 70 = .ok (.invokestatic 43, 3) := by decide +kernel
theorem d_DotBook_init_73 : decode b_DotBook_init 73 = .ok (.invokestatic 49, 3) := by decide +kernel
theorem d_DotBook_init_76 : decode b_DotBook_init 76 = .ok (.iconst 4, 1) := by decide +kernel
theorem d_DotBook_init_77 : decode b_DotBook_init 77 = .ok (.bipush 20, 2) := by decide +kernel
theorem d_DotBook_init_79 : decode b_DotBook_init 79 = .ok (.iload_n 2, 1) := by decide +kernel
theorem d_DotBook_init_80 : decode b_DotBook_init 80 = .ok (.invokestatic 43, 3) := by decide +kernel
theorem d_DotBook_init_83 : decode b_DotBook_init 83 = .ok (.invokestatic 49, 3) := by decide +kernel
theorem d_DotBook_init_86 : decode b_DotBook_init 86 = .ok (.invokespecial 52, 3) := by decide +kernel
theorem d_DotBook_init_89 : decode b_DotBook_init 89 = .ok (.putfield 55, 3) := by decide +kernel
theorem d_DotBook_init_92 : decode b_DotBook_init 92 = .ok (.return_, 1) := by decide +kernel
theorem d_DotBook_type_0 : decode b_DotBook_type 0 = .ok (.iload_n 1, 1) := by decide +kernel
theorem d_DotBook_type_1 : decode b_DotBook_type 1 = .ok (.bipush 32, 2) := by decide +kernel
theorem d_DotBook_type_3 : decode b_DotBook_type 3 = .ok (.if_icmp .lt 9, 3) := by decide +kernel
theorem d_DotBook_type_6 : decode b_DotBook_type 6 = .ok (.iload_n 1, 1) := by decide +kernel
theorem d_DotBook_type_7 : decode b_DotBook_type 7 = .ok (.bipush 126, 2) := by decide +kernel
theorem d_DotBook_type_9 : decode b_DotBook_type 9 = .ok (.if_icmp .le 11, 3) := by decide +kernel
theorem d_DotBook_type_12 : decode b_DotBook_type 12 = .ok (.new 59, 3) := by decide +kernel
theorem d_DotBook_type_15 : decode b_DotBook_type 15 = .ok (.dup, 1) := by decide +kernel
theorem d_DotBook_type_16 : decode b_DotBook_type 16 = .ok (.invokespecial 61, 3) := by decide +kernel
theorem d_DotBook_type_19 : decode b_DotBook_type 19 = .ok (.athrow, 1) := by decide +kernel
theorem d_DotBook_type_20 : decode b_DotBook_type 20 = .ok (.aload_n 0, 1) := by decide +kernel
theorem d_DotBook_type_21 : decode b_DotBook_type 21 = .ok (.getfield 12, 3) := by decide +kernel
theorem d_DotBook_type_24 : decode b_DotBook_type 24 = .ok (.getfield 62, 3) := by decide +kernel
theorem d_DotBook_type_27 : decode b_DotBook_type 27 = .ok (.bipush 80, 2) := by decide +kernel
theorem d_DotBook_type_29 : decode b_DotBook_type 29 = .ok (.if_icmp .lt 11, 3) := by decide +kernel
theorem d_DotBook_type_32 : decode b_DotBook_type 32 = .ok (.new 66, 3) := by decide +kernel
theorem d_DotBook_type_35 : decode b_DotBook_type 35 = .ok (.dup, 1) := by decide +kernel
theorem d_DotBook_type_36 : decode b_DotBook_type 36 = .ok (.invokespecial 68, 3) := by decide +kernel
theorem d_DotBook_type_39 : decode b_DotBook_type 39 = .ok (.athrow, 1) := by decide +kernel
theorem d_DotBook_type_40 : decode b_DotBook_type 40 = .ok (.aload_n 0, 1) := by decide +kernel
theorem d_DotBook_type_41 : decode b_DotBook_type 41 = .ok (.getfield 12, 3) := by decide +kernel
theorem d_DotBook_type_44 : decode b_DotBook_type 44 = .ok (.iload_n 1, 1) := by decide +kernel
theorem d_DotBook_type_45 : decode b_DotBook_type 45 = .ok (.invokevirtual 69, 3) := by decide +kernel
theorem d_DotBook_type_48 : decode b_DotBook_type 48 = .ok (.aload_n 0, 1) := by decide +kernel
theorem d_DotBook_type_49 : decode b_DotBook_type 49 = .ok (.getfield 12, 3) := by decide +kernel
theorem d_DotBook_type_52 : decode b_DotBook_type 52 = .ok (.getfield 62, 3) := by decide +kernel
theorem d_DotBook_type_55 : decode b_DotBook_type 55 = .ok (.ireturn, 1) := by decide +kernel
theorem d_DotBook_wipe_0 : decode b_DotBook_wipe 0 = .ok (.aload_n 0, 1) := by decide +kernel
theorem d_DotBook_wipe_1 : decode b_DotBook_wipe 1 = .ok (.getfield 12, 3) := by decide +kernel
theorem d_DotBook_wipe_4 : decode b_DotBook_wipe 4 = .ok (.iconst 0, 1) := by decide +kernel
theorem d_DotBook_wipe_5 : decode b_DotBook_wipe 5 = .ok (.putfield 62, 3) := by decide +kernel
theorem d_DotBook_wipe_8 : decode b_DotBook_wipe 8 = .ok (.return_, 1) := by decide +kernel
theorem d_DotBook_rules_0 : decode b_DotBook_rules 0 = .ok (.aload_n 0, 1) := by decide +kernel
theorem d_DotBook_rules_1 : decode b_DotBook_rules 1 = .ok (.getfield 19, 3) := by decide +kernel
theorem d_DotBook_rules_4 : decode b_DotBook_rules 4 = .ok (.aload_n 0, 1) := by decide +kernel
theorem d_DotBook_rules_5 : decode b_DotBook_rules 5 = .ok (.getfield 12, 3) := by decide +kernel
theorem d_DotBook_rules_8 : decode b_DotBook_rules 8 = .ok (.iload_n 1, 1) := by decide +kernel
theorem d_DotBook_rules_9 : decode b_DotBook_rules 9 = .ok (.invokevirtual 73, 3) := by decide +kernel
theorem d_DotBook_rules_12 : decode b_DotBook_rules 12 = .ok (.ifCond .ne 11, 3) := by decide +kernel
theorem d_DotBook_rules_15 : decode b_DotBook_rules 15 = .ok (.new 59, 3) := by decide +kernel
theorem d_DotBook_rules_18 : decode b_DotBook_rules 18 = .ok (.dup, 1) := by decide +kernel
theorem d_DotBook_rules_19 : decode b_DotBook_rules 19 = .ok (.invokespecial 61, 3) := by decide +kernel
theorem d_DotBook_rules_22 : decode b_DotBook_rules 22 = .ok (.athrow, 1) := by decide +kernel
theorem d_DotBook_rules_23 : decode b_DotBook_rules 23 = .ok (.aload_n 0, 1) := by decide +kernel
theorem d_DotBook_rules_24 : decode b_DotBook_rules 24 = .ok (.getfield 12, 3) := by decide +kernel
theorem d_DotBook_rules_27 : decode b_DotBook_rules 27 = .ok (.iconst 0, 1) := by decide +kernel
theorem d_DotBook_rules_28 : decode b_DotBook_rules 28 = .ok (.putfield 62, 3) := by decide +kernel
theorem d_DotBook_rules_31 : decode b_DotBook_rules 31 = .ok (.aload_n 0, 1) := by decide +kernel
theorem d_DotBook_rules_32 : decode b_DotBook_rules 32 = .ok (.getfield 19, 3) := by decide +kernel
theorem d_DotBook_rules_35 : decode b_DotBook_rules 35 = .ok (.getfield 77, 3) := by decide +kernel
theorem d_DotBook_rules_38 : decode b_DotBook_rules 38 = .ok (.ireturn, 1) := by decide +kernel
theorem d_DotBook_wrong_0 : decode b_DotBook_wrong 0 = .ok (.aload_n 0, 1) := by decide +kernel
theorem d_DotBook_wrong_1 : decode b_DotBook_wrong 1 = .ok (.getfield 19, 3) := by decide +kernel
theorem d_DotBook_wrong_4 : decode b_DotBook_wrong 4 = .ok (.getfield 78, 3) := by decide +kernel
theorem d_DotBook_wrong_7 : decode b_DotBook_wrong 7 = .ok (.ireturn, 1) := by decide +kernel
theorem d_DotBook_block_0 : decode b_DotBook_block 0 = .ok (.iload_n 1, 1) := by decide +kernel
theorem d_DotBook_block_1 : decode b_DotBook_block 1 = .ok (.ifCond .lt 18, 3) := by decide +kernel
theorem d_DotBook_block_4 : decode b_DotBook_block 4 = .ok (.iload_n 1, 1) := by decide +kernel
theorem d_DotBook_block_5 : decode b_DotBook_block 5 = .ok (.iconst 3, 1) := by decide +kernel
theorem d_DotBook_block_6 : decode b_DotBook_block 6 = .ok (.if_icmp .gt 13, 3) := by decide +kernel
theorem d_DotBook_block_9 : decode b_DotBook_block 9 = .ok (.aload_n 0, 1) := by decide +kernel
theorem d_DotBook_block_10 : decode b_DotBook_block 10 = .ok (.getfield 12, 3) := by decide +kernel
theorem d_DotBook_block_13 : decode b_DotBook_block 13 = .ok (.invokevirtual 81, 3) := by decide +kernel
theorem d_DotBook_block_16 : decode b_DotBook_block 16 = .ok (.ifCond .ne 11, 3) := by decide +kernel
theorem d_DotBook_block_19 : decode b_DotBook_block 19 = .ok (.new 59, 3) := by decide +kernel
theorem d_DotBook_block_22 : decode b_DotBook_block 22 = .ok (.dup, 1) := by decide +kernel
theorem d_DotBook_block_23 : decode b_DotBook_block 23 = .ok (.invokespecial 61, 3) := by decide +kernel
theorem d_DotBook_block_26 : decode b_DotBook_block 26 = .ok (.athrow, 1) := by decide +kernel
theorem d_DotBook_block_27 : decode b_DotBook_block 27 = .ok (.aload_n 0, 1) := by decide +kernel
theorem d_DotBook_block_28 : decode b_DotBook_block 28 = .ok (.getfield 55, 3) := by decide +kernel
theorem d_DotBook_block_31 : decode b_DotBook_block 31 = .ok (.getfield 85, 3) := by decide +kernel
theorem d_DotBook_block_34 : decode b_DotBook_block 34 = .ok (.bipush 12, 2) := by decide +kernel
theorem d_DotBook_block_36 : decode b_DotBook_block 36 = .ok (.if_icmp .lt 11, 3) := by decide +kernel
theorem d_DotBook_block_39 : decode b_DotBook_block 39 = .ok (.new 66, 3) := by decide +kernel
theorem d_DotBook_block_42 : decode b_DotBook_block 42 = .ok (.dup, 1) := by decide +kernel
theorem d_DotBook_block_43 : decode b_DotBook_block 43 = .ok (.invokespecial 68, 3) := by decide +kernel
theorem d_DotBook_block_46 : decode b_DotBook_block 46 = .ok (.athrow, 1) := by decide +kernel
theorem d_DotBook_block_47 : decode b_DotBook_block 47 = .ok (.aload_n 0, 1) := by decide +kernel
theorem d_DotBook_block_48 : decode b_DotBook_block 48 = .ok (.getfield 55, 3) := by decide +kernel
theorem d_DotBook_block_51 : decode b_DotBook_block 51 = .ok (.getfield 86, 3) := by decide +kernel
theorem d_DotBook_block_54 : decode b_DotBook_block 54 = .ok (.aload_n 0, 1) := by decide +kernel
theorem d_DotBook_block_55 : decode b_DotBook_block 55 = .ok (.getfield 55, 3) := by decide +kernel
theorem d_DotBook_block_58 : decode b_DotBook_block 58 = .ok (.getfield 85, 3) := by decide +kernel
theorem d_DotBook_block_61 : decode b_DotBook_block 61 = .ok (.aaload, 1) := by decide +kernel
theorem d_DotBook_block_62 : decode b_DotBook_block 62 = .ok (.astore_n 2, 1) := by decide +kernel
theorem d_DotBook_block_63 : decode b_DotBook_block 63 = .ok (.aload_n 2, 1) := by decide +kernel
theorem d_DotBook_block_64 : decode b_DotBook_block 64 = .ok (.iload_n 1, 1) := by decide +kernel
theorem d_DotBook_block_65 : decode b_DotBook_block 65 = .ok (.invokevirtual 90, 3) := by decide +kernel
theorem d_DotBook_block_68 : decode b_DotBook_block 68 = .ok (.iload_n 1, 1) := by decide +kernel
theorem d_DotBook_block_69 : decode b_DotBook_block 69 = .ok (.iconst 3, 1) := by decide +kernel
theorem d_DotBook_block_70 : decode b_DotBook_block 70 = .ok (.if_icmp .eq 11, 3) := by decide +kernel
theorem d_DotBook_block_73 : decode b_DotBook_block 73 = .ok (.aload_n 0, 1) := by decide +kernel
theorem d_DotBook_block_74 : decode b_DotBook_block 74 = .ok (.getfield 28, 3) := by decide +kernel
theorem d_DotBook_block_77 : decode b_DotBook_block 77 = .ok (.aload_n 2, 1) := by decide +kernel
theorem d_DotBook_block_78 : decode b_DotBook_block 78 = .ok (.invokevirtual 96, 3) := by decide +kernel
theorem d_DotBook_block_81 : decode b_DotBook_block 81 = .ok (.aload_n 0, 1) := by decide +kernel
theorem d_DotBook_block_82 : decode b_DotBook_block 82 = .ok (.getfield 55, 3) := by decide +kernel
theorem d_DotBook_block_85 : decode b_DotBook_block 85 = .ok (.aload_n 2, 1) := by decide +kernel
theorem d_DotBook_block_86 : decode b_DotBook_block 86 = .ok (.invokevirtual 100, 3) := by decide +kernel
theorem d_DotBook_block_89 : decode b_DotBook_block 89 = .ok (.aload_n 0, 1) := by decide +kernel
theorem d_DotBook_block_90 : decode b_DotBook_block 90 = .ok (.getfield 55, 3) := by decide +kernel
theorem d_DotBook_block_93 : decode b_DotBook_block 93 = .ok (.dup, 1) := by decide +kernel
theorem d_DotBook_block_94 : decode b_DotBook_block 94 = .ok (.getfield 85, 3) := by decide +kernel
theorem d_DotBook_block_97 : decode b_DotBook_block 97 = .ok (.iconst 1, 1) := by decide +kernel
theorem d_DotBook_block_98 : decode b_DotBook_block 98 = .ok (.iadd, 1) := by decide +kernel
theorem d_DotBook_block_99 : decode b_DotBook_block 99 = .ok (.putfield 85, 3) := by decide +kernel
theorem d_DotBook_block_102 : decode b_DotBook_block 102 = .ok (.aload_n 0, 1) := by decide +kernel
theorem d_DotBook_block_103 : decode b_DotBook_block 103 = .ok (.getfield 12, 3) := by decide +kernel
theorem d_DotBook_block_106 : decode b_DotBook_block 106 = .ok (.iconst 0, 1) := by decide +kernel
theorem d_DotBook_block_107 : decode b_DotBook_block 107 = .ok (.putfield 62, 3) := by decide +kernel
theorem d_DotBook_block_110 : decode b_DotBook_block 110 = .ok (.aload_n 0, 1) := by decide +kernel
theorem d_DotBook_block_111 : decode b_DotBook_block 111 = .ok (.getfield 55, 3) := by decide +kernel
theorem d_DotBook_block_114 : decode b_DotBook_block 114 = .ok (.getfield 85, 3) := by decide +kernel
theorem d_DotBook_block_117 : decode b_DotBook_block 117 = .ok (.ireturn, 1) := by decide +kernel
theorem d_DotBook_size_0 : decode b_DotBook_size 0 = .ok (.iload_n 1, 1) := by decide +kernel
theorem d_DotBook_size_1 : decode b_DotBook_size 1 = .ok (.ifCond .lt 14, 3) := by decide +kernel
theorem d_DotBook_size_4 : decode b_DotBook_size 4 = .ok (.iload_n 1, 1) := by decide +kernel
theorem d_DotBook_size_5 : decode b_DotBook_size 5 = .ok (.aload_n 0, 1) := by decide +kernel
theorem d_DotBook_size_6 : decode b_DotBook_size 6 = .ok (.getfield 55, 3) := by decide +kernel
theorem d_DotBook_size_9 : decode b_DotBook_size 9 = .ok (.getfield 85, 3) := by decide +kernel
theorem d_DotBook_size_12 : decode b_DotBook_size 12 = .ok (.if_icmp .lt 11, 3) := by decide +kernel
theorem d_DotBook_size_15 : decode b_DotBook_size 15 = .ok (.new 103, 3) := by decide +kernel
theorem d_DotBook_size_18 : decode b_DotBook_size 18 = .ok (.dup, 1) := by decide +kernel
theorem d_DotBook_size_19 : decode b_DotBook_size 19 = .ok (.invokespecial 105, 3) := by decide +kernel
theorem d_DotBook_size_22 : decode b_DotBook_size 22 = .ok (.athrow, 1) := by decide +kernel
theorem d_DotBook_size_23 : decode b_DotBook_size 23 = .ok (.aload_n 0, 1) := by decide +kernel
theorem d_DotBook_size_24 : decode b_DotBook_size 24 = .ok (.getfield 55, 3) := by decide +kernel
theorem d_DotBook_size_27 : decode b_DotBook_size 27 = .ok (.getfield 86, 3) := by decide +kernel
theorem d_DotBook_size_30 : decode b_DotBook_size 30 = .ok (.iload_n 1, 1) := by decide +kernel
theorem d_DotBook_size_31 : decode b_DotBook_size 31 = .ok (.aaload, 1) := by decide +kernel
theorem d_DotBook_size_32 : decode b_DotBook_size 32 = .ok (.getfield 106, 3) := by decide +kernel
theorem d_DotBook_size_35 : decode b_DotBook_size 35 = .ok (.ireturn, 1) := by decide +kernel
theorem d_DotBook_cell_0 : decode b_DotBook_cell 0 = .ok (.iload_n 1, 1) := by decide +kernel
theorem d_DotBook_cell_1 : decode b_DotBook_cell 1 = .ok (.ifCond .lt 34, 3) := by decide +kernel
theorem d_DotBook_cell_4 : decode b_DotBook_cell 4 = .ok (.iload_n 1, 1) := by decide +kernel
theorem d_DotBook_cell_5 : decode b_DotBook_cell 5 = .ok (.aload_n 0, 1) := by decide +kernel
theorem d_DotBook_cell_6 : decode b_DotBook_cell 6 = .ok (.getfield 55, 3) := by decide +kernel
theorem d_DotBook_cell_9 : decode b_DotBook_cell 9 = .ok (.getfield 85, 3) := by decide +kernel
theorem d_DotBook_cell_12 : decode b_DotBook_cell 12 = .ok (.if_icmp .ge 23, 3) := by decide +kernel
theorem d_DotBook_cell_15 : decode b_DotBook_cell 15 = .ok (.iload_n 2, 1) := by decide +kernel
theorem d_DotBook_cell_16 : decode b_DotBook_cell 16 = .ok (.ifCond .lt 19, 3) := by decide +kernel
theorem d_DotBook_cell_19 : decode b_DotBook_cell 19 = .ok (.iload_n 2, 1) := by decide +kernel
theorem d_DotBook_cell_20 : decode b_DotBook_cell 20 = .ok (.aload_n 0, 1) := by decide +kernel
theorem d_DotBook_cell_21 : decode b_DotBook_cell 21 = .ok (.getfield 55, 3) := by decide +kernel
theorem d_DotBook_cell_24 : decode b_DotBook_cell 24 = .ok (.getfield 86, 3) := by decide +kernel
theorem d_DotBook_cell_27 : decode b_DotBook_cell 27 = .ok (.iload_n 1, 1) := by decide +kernel
theorem d_DotBook_cell_28 : decode b_DotBook_cell 28 = .ok (.aaload, 1) := by decide +kernel
theorem d_DotBook_cell_29 : decode b_DotBook_cell 29 = .ok (.getfield 106, 3) := by decide +kernel
theorem d_DotBook_cell_32 : decode b_DotBook_cell 32 = .ok (.if_icmp .lt 11, 3) := by decide +kernel
theorem d_DotBook_cell_35 : decode b_DotBook_cell 35 = .ok (.new 103, 3) := by decide +kernel
theorem d_DotBook_cell_38 : decode b_DotBook_cell 38 = .ok (.dup, 1) := by decide +kernel
theorem d_DotBook_cell_39 : decode b_DotBook_cell 39 = .ok (.invokespecial 105, 3) := by decide +kernel
theorem d_DotBook_cell_42 : decode b_DotBook_cell 42 = .ok (.athrow, 1) := by decide +kernel
theorem d_DotBook_cell_43 : decode b_DotBook_cell 43 = .ok (.aload_n 0, 1) := by decide +kernel
theorem d_DotBook_cell_44 : decode b_DotBook_cell 44 = .ok (.getfield 55, 3) := by decide +kernel
theorem d_DotBook_cell_47 : decode b_DotBook_cell 47 = .ok (.getfield 86, 3) := by decide +kernel
theorem d_DotBook_cell_50 : decode b_DotBook_cell 50 = .ok (.iload_n 1, 1) := by decide +kernel
theorem d_DotBook_cell_51 : decode b_DotBook_cell 51 = .ok (.aaload, 1) := by decide +kernel
theorem d_DotBook_cell_52 : decode b_DotBook_cell 52 = .ok (.getfield 107, 3) := by decide +kernel
theorem d_DotBook_cell_55 : decode b_DotBook_cell 55 = .ok (.iload_n 2, 1) := by decide +kernel
theorem d_DotBook_cell_56 : decode b_DotBook_cell 56 = .ok (.iaload, 1) := by decide +kernel
theorem d_DotBook_cell_57 : decode b_DotBook_cell 57 = .ok (.ireturn, 1) := by decide +kernel
theorem d_DotBook_back_0 : decode b_DotBook_back 0 = .ok (.iload_n 1, 1) := by decide +kernel
theorem d_DotBook_back_1 : decode b_DotBook_back 1 = .ok (.ifCond .lt 14, 3) := by decide +kernel
theorem d_DotBook_back_4 : decode b_DotBook_back 4 = .ok (.iload_n 1, 1) := by decide +kernel
theorem d_DotBook_back_5 : decode b_DotBook_back 5 = .ok (.aload_n 0, 1) := by decide +kernel
theorem d_DotBook_back_6 : decode b_DotBook_back 6 = .ok (.getfield 55, 3) := by decide +kernel
theorem d_DotBook_back_9 : decode b_DotBook_back 9 = .ok (.getfield 85, 3) := by decide +kernel
theorem d_DotBook_back_12 : decode b_DotBook_back 12 = .ok (.if_icmp .lt 11, 3) := by decide +kernel
theorem d_DotBook_back_15 : decode b_DotBook_back 15 = .ok (.new 103, 3) := by decide +kernel
theorem d_DotBook_back_18 : decode b_DotBook_back 18 = .ok (.dup, 1) := by decide +kernel
theorem d_DotBook_back_19 : decode b_DotBook_back 19 = .ok (.invokespecial 105, 3) := by decide +kernel
theorem d_DotBook_back_22 : decode b_DotBook_back 22 = .ok (.athrow, 1) := by decide +kernel
theorem d_DotBook_back_23 : decode b_DotBook_back 23 = .ok (.aload_n 0, 1) := by decide +kernel
theorem d_DotBook_back_24 : decode b_DotBook_back 24 = .ok (.getfield 37, 3) := by decide +kernel
theorem d_DotBook_back_27 : decode b_DotBook_back 27 = .ok (.aload_n 0, 1) := by decide +kernel
theorem d_DotBook_back_28 : decode b_DotBook_back 28 = .ok (.getfield 55, 3) := by decide +kernel
theorem d_DotBook_back_31 : decode b_DotBook_back 31 = .ok (.getfield 86, 3) := by decide +kernel
theorem d_DotBook_back_34 : decode b_DotBook_back 34 = .ok (.iload_n 1, 1) := by decide +kernel
theorem d_DotBook_back_35 : decode b_DotBook_back 35 = .ok (.aaload, 1) := by decide +kernel
theorem d_DotBook_back_36 : decode b_DotBook_back 36 = .ok (.invokevirtual 111, 3) := by decide +kernel
theorem d_DotBook_back_39 : decode b_DotBook_back 39 = .ok (.aload_n 0, 1) := by decide +kernel
theorem d_DotBook_back_40 : decode b_DotBook_back 40 = .ok (.getfield 37, 3) := by decide +kernel
theorem d_DotBook_back_43 : decode b_DotBook_back 43 = .ok (.getfield 114, 3) := by decide +kernel
theorem d_DotBook_back_46 : decode b_DotBook_back 46 = .ok (.ireturn, 1) := by decide +kernel
theorem d_DotBook_heard_0 : decode b_DotBook_heard 0 = .ok (.iload_n 1, 1) := by decide +kernel
theorem d_DotBook_heard_1 : decode b_DotBook_heard 1 = .ok (.ifCond .lt 26, 3) := by decide +kernel
theorem d_DotBook_heard_4 : decode b_DotBook_heard 4 = .ok (.iload_n 1, 1) := by decide +kernel
theorem d_DotBook_heard_5 : decode b_DotBook_heard 5 = .ok (.aload_n 0, 1) := by decide +kernel
theorem d_DotBook_heard_6 : decode b_DotBook_heard 6 = .ok (.getfield 37, 3) := by decide +kernel
theorem d_DotBook_heard_9 : decode b_DotBook_heard 9 = .ok (.getfield 114, 3) := by decide +kernel
theorem d_DotBook_heard_12 : decode b_DotBook_heard 12 = .ok (.if_icmp .ge 15, 3) := by decide +kernel
theorem d_DotBook_heard_15 : decode b_DotBook_heard 15 = .ok (.aload_n 0, 1) := by decide +kernel
theorem d_DotBook_heard_16 : decode b_DotBook_heard 16 = .ok (.getfield 37, 3) := by decide +kernel
theorem d_DotBook_heard_19 : decode b_DotBook_heard 19 = .ok (.getfield 115, 3) := by decide +kernel
theorem d_DotBook_heard_22 : decode b_DotBook_heard 22 = .ok (.iload_n 1, 1) := by decide +kernel
theorem d_DotBook_heard_23 : decode b_DotBook_heard 23 = .ok (.caload, 1) := by decide +kernel
theorem d_DotBook_heard_24 : decode b_DotBook_heard 24 = .ok (.goto 5, 3) := by decide +kernel
theorem d_DotBook_heard_27 : decode b_DotBook_heard 27 = .ok (.bipush 32, 2) := by decide +kernel
theorem d_DotBook_heard_29 : decode b_DotBook_heard 29 = .ok (.ireturn, 1) := by decide +kernel
theorem d_DotBook_pages_0 : decode b_DotBook_pages 0 = .ok (.aload_n 0, 1) := by decide +kernel
theorem d_DotBook_pages_1 : decode b_DotBook_pages 1 = .ok (.getfield 55, 3) := by decide +kernel
theorem d_DotBook_pages_4 : decode b_DotBook_pages 4 = .ok (.getfield 119, 3) := by decide +kernel
theorem d_DotBook_pages_7 : decode b_DotBook_pages 7 = .ok (.ireturn, 1) := by decide +kernel
theorem d_DotBook_at_0 : decode b_DotBook_at 0 = .ok (.iload_n 1, 1) := by decide +kernel
theorem d_DotBook_at_1 : decode b_DotBook_at 1 = .ok (.iconst 1, 1) := by decide +kernel
theorem d_DotBook_at_2 : decode b_DotBook_at 2 = .ok (.if_icmp .lt 44, 3) := by decide +kernel
theorem d_DotBook_at_5 : decode b_DotBook_at 5 = .ok (.iload_n 1, 1) := by decide +kernel
theorem d_DotBook_at_6 : decode b_DotBook_at 6 = .ok (.aload_n 0, 1) := by decide +kernel
theorem d_DotBook_at_7 : decode b_DotBook_at 7 = .ok (.getfield 55, 3) := by decide +kernel
theorem d_DotBook_at_10 : decode b_DotBook_at 10 = .ok (.getfield 119, 3) := by decide +kernel
theorem d_DotBook_at_13 : decode b_DotBook_at 13 = .ok (.if_icmp .gt 33, 3) := by decide +kernel
theorem d_DotBook_at_16 : decode b_DotBook_at 16 = .ok (.iload_n 2, 1) := by decide +kernel
theorem d_DotBook_at_17 : decode b_DotBook_at 17 = .ok (.ifCond .lt 29, 3) := by decide +kernel
theorem d_DotBook_at_20 : decode b_DotBook_at 20 = .ok (.iload_n 2, 1) := by decide +kernel
theorem d_DotBook_at_21 : decode b_DotBook_at 21 = .ok (.aload_n 0, 1) := by decide +kernel
theorem d_DotBook_at_22 : decode b_DotBook_at 22 = .ok (.getfield 55, 3) := by decide +kernel
theorem d_DotBook_at_25 : decode b_DotBook_at 25 = .ok (.getfield 122, 3) := by decide +kernel
theorem d_DotBook_at_28 : decode b_DotBook_at 28 = .ok (.if_icmp .ge 18, 3) := by decide +kernel
theorem d_DotBook_at_31 : decode b_DotBook_at 31 = .ok (.iload_n 3, 1) := by decide +kernel
theorem d_DotBook_at_32 : decode b_DotBook_at 32 = .ok (.ifCond .lt 14, 3) := by decide +kernel
theorem d_DotBook_at_35 : decode b_DotBook_at 35 = .ok (.iload_n 3, 1) := by decide +kernel
theorem d_DotBook_at_36 : decode b_DotBook_at 36 = .ok (.aload_n 0, 1) := by decide +kernel
theorem d_DotBook_at_37 : decode b_DotBook_at 37 = .ok (.getfield 55, 3) := by decide +kernel
theorem d_DotBook_at_40 : decode b_DotBook_at 40 = .ok (.getfield 125, 3) := by decide +kernel
theorem d_DotBook_at_43 : decode b_DotBook_at 43 = .ok (.if_icmp .lt 11, 3) := by decide +kernel
theorem d_DotBook_at_46 : decode b_DotBook_at 46 = .ok (.new 103, 3) := by decide +kernel
theorem d_DotBook_at_49 : decode b_DotBook_at 49 = .ok (.dup, 1) := by decide +kernel
theorem d_DotBook_at_50 : decode b_DotBook_at 50 = .ok (.invokespecial 105, 3) := by decide +kernel
theorem d_DotBook_at_53 : decode b_DotBook_at 53 = .ok (.athrow, 1) := by decide +kernel
theorem d_DotBook_at_54 : decode b_DotBook_at 54 = .ok (.iload_n 2, 1) := by decide +kernel
theorem d_DotBook_at_55 : decode b_DotBook_at 55 = .ok (.aload_n 0, 1) := by decide +kernel
theorem d_DotBook_at_56 : decode b_DotBook_at 56 = .ok (.getfield 55, 3) := by decide +kernel
theorem d_DotBook_at_59 : decode b_DotBook_at 59 = .ok (.getfield 128, 3) := by decide +kernel
theorem d_DotBook_at_62 : decode b_DotBook_at 62 = .ok (.if_icmp .ne 15, 3) := by decide +kernel
theorem d_DotBook_at_65 : decode b_DotBook_at 65 = .ok (.aload_n 0, 1) := by decide +kernel
theorem d_DotBook_at_66 : decode b_DotBook_at 66 = .ok (.getfield 55, 3) := by decide +kernel
theorem d_DotBook_at_69 : decode b_DotBook_at 69 = .ok (.iload_n 1, 1) := by decide +kernel
theorem d_DotBook_at_70 : decode b_DotBook_at 70 = .ok (.iload_n 3, 1) := by decide +kernel
theorem d_DotBook_at_71 : decode b_DotBook_at 71 = .ok (.invokevirtual 131, 3) := by decide +kernel
theorem d_DotBook_at_74 : decode b_DotBook_at 74 = .ok (.goto 13, 3) := by decide +kernel
theorem d_DotBook_at_77 : decode b_DotBook_at 77 = .ok (.aload_n 0, 1) := by decide +kernel
theorem d_DotBook_at_78 : decode b_DotBook_at 78 = .ok (.getfield 55, 3) := by decide +kernel
theorem d_DotBook_at_81 : decode b_DotBook_at 81 = .ok (.iload_n 1, 1) := by decide +kernel
theorem d_DotBook_at_82 : decode b_DotBook_at 82 = .ok (.iload_n 2, 1) := by decide +kernel
theorem d_DotBook_at_83 : decode b_DotBook_at 83 = .ok (.iload_n 3, 1) := by decide +kernel
theorem d_DotBook_at_84 : decode b_DotBook_at 84 = .ok (.invokevirtual 134, 3) := by decide +kernel
theorem d_DotBook_at_87 : decode b_DotBook_at 87 = .ok (.ireturn, 1) := by decide +kernel
theorem d_DotBook_where_0 : decode b_DotBook_where 0 = .ok (.iload_n 1, 1) := by decide +kernel
theorem d_DotBook_where_1 : decode b_DotBook_where 1 = .ok (.ifCond .lt 14, 3) := by decide +kernel
theorem d_DotBook_where_4 : decode b_DotBook_where 4 = .ok (.iload_n 1, 1) := by decide +kernel
theorem d_DotBook_where_5 : decode b_DotBook_where 5 = .ok (.aload_n 0, 1) := by decide +kernel
theorem d_DotBook_where_6 : decode b_DotBook_where 6 = .ok (.getfield 55, 3) := by decide +kernel
theorem d_DotBook_where_9 : decode b_DotBook_where 9 = .ok (.getfield 85, 3) := by decide +kernel
theorem d_DotBook_where_12 : decode b_DotBook_where 12 = .ok (.if_icmp .lt 11, 3) := by decide +kernel
theorem d_DotBook_where_15 : decode b_DotBook_where 15 = .ok (.new 103, 3) := by decide +kernel
theorem d_DotBook_where_18 : decode b_DotBook_where 18 = .ok (.dup, 1) := by decide +kernel
theorem d_DotBook_where_19 : decode b_DotBook_where 19 = .ok (.invokespecial 105, 3) := by decide +kernel
theorem d_DotBook_where_22 : decode b_DotBook_where 22 = .ok (.athrow, 1) := by decide +kernel
theorem d_DotBook_where_23 : decode b_DotBook_where 23 = .ok (.aload_n 0, 1) := by decide +kernel
theorem d_DotBook_where_24 : decode b_DotBook_where 24 = .ok (.getfield 55, 3) := by decide +kernel
theorem d_DotBook_where_27 : decode b_DotBook_where 27 = .ok (.getfield 86, 3) := by decide +kernel
theorem d_DotBook_where_30 : decode b_DotBook_where 30 = .ok (.iload_n 1, 1) := by decide +kernel
theorem d_DotBook_where_31 : decode b_DotBook_where 31 = .ok (.aaload, 1) := by decide +kernel
theorem d_DotBook_where_32 : decode b_DotBook_where 32 = .ok (.astore_n 2, 1) := by decide +kernel
theorem d_DotBook_where_33 : decode b_DotBook_where 33 = .ok (.aload_n 2, 1) := by decide +kernel
theorem d_DotBook_where_34 : decode b_DotBook_where 34 = .ok (.getfield 138, 3) := by decide +kernel
theorem d_DotBook_where_37 : decode b_DotBook_where 37 = .ok (.ifCond .le 18, 3) := by decide +kernel
theorem d_DotBook_where_40 : decode b_DotBook_where 40 = .ok (.aload_n 2, 1) := by decide +kernel
theorem d_DotBook_where_41 : decode b_DotBook_where 41 = .ok (.getfield 141, 3) := by decide +kernel
theorem d_DotBook_where_44 : decode b_DotBook_where 44 = .ok (.bipush 32, 2) := by decide +kernel
theorem d_DotBook_where_46 : decode b_DotBook_where 46 = .ok (.imul, 1) := by decide +kernel
theorem d_DotBook_where_47 : decode b_DotBook_where 47 = .ok (.aload_n 2, 1) := by decide +kernel
theorem d_DotBook_where_48 : decode b_DotBook_where 48 = .ok (.getfield 144, 3) := by decide +kernel
theorem d_DotBook_where_51 : decode b_DotBook_where 51 = .ok (.iadd, 1) := by decide +kernel
theorem d_DotBook_where_52 : decode b_DotBook_where 52 = .ok (.goto 4, 3) := by decide +kernel
theorem d_DotBook_where_55 : decode b_DotBook_where 55 = .ok (.iconst (-1), 1) := by decide +kernel
theorem d_DotBook_where_56 : decode b_DotBook_where 56 = .ok (.ireturn, 1) := by decide +kernel
theorem d_DotBook_heading_0 : decode b_DotBook_heading 0 = .ok (.iconst 0, 1) := by decide +kernel
theorem d_DotBook_heading_1 : decode b_DotBook_heading 1 = .ok (.istore_n 2, 1) := by decide +kernel
theorem d_DotBook_heading_2 : decode b_DotBook_heading 2 = .ok (.iconst 0, 1) := by decide +kernel
theorem d_DotBook_heading_3 : decode b_DotBook_heading 3 = .ok (.istore_n 3, 1) := by decide +kernel
theorem d_DotBook_heading_4 : decode b_DotBook_heading 4 = .ok (.iload_n 3, 1) := by decide +kernel
theorem d_DotBook_heading_5 : decode b_DotBook_heading 5 = .ok (.aload_n 0, 1) := by decide +kernel
theorem d_DotBook_heading_6 : decode b_DotBook_heading 6 = .ok (.getfield 55, 3) := by decide +kernel
theorem d_DotBook_heading_9 : decode b_DotBook_heading 9 = .ok (.getfield 85, 3) := by decide +kernel
theorem d_DotBook_heading_12 : decode b_DotBook_heading 12 = .ok (.if_icmp .ge 50, 3) := by decide +kernel
theorem d_DotBook_heading_15 : decode b_DotBook_heading 15 = .ok (.aload_n 0, 1) := by decide +kernel
theorem d_DotBook_heading_16 : decode b_DotBook_heading 16 = .ok (.getfield 55, 3) := by decide +kernel
theorem d_DotBook_heading_19 : decode b_DotBook_heading 19 = .ok (.getfield 86, 3) := by decide +kernel
theorem d_DotBook_heading_22 : decode b_DotBook_heading 22 = .ok (.iload_n 3, 1) := by decide +kernel
theorem d_DotBook_heading_23 : decode b_DotBook_heading 23 = .ok (.aaload, 1) := by decide +kernel
theorem d_DotBook_heading_24 : decode b_DotBook_heading 24 = .ok (.getfield 147, 3) := by decide +kernel
theorem d_DotBook_heading_27 : decode b_DotBook_heading 27 = .ok (.iconst 1, 1) := by decide +kernel
theorem d_DotBook_heading_28 : decode b_DotBook_heading 28 = .ok (.if_icmp .ne 28, 3) := by decide +kernel
theorem d_DotBook_heading_31 : decode b_DotBook_heading 31 = .ok (.aload_n 0, 1) := by decide +kernel
theorem d_DotBook_heading_32 : decode b_DotBook_heading 32 = .ok (.getfield 55, 3) := by decide +kernel
theorem d_DotBook_heading_35 : decode b_DotBook_heading 35 = .ok (.getfield 86, 3) := by decide +kernel
theorem d_DotBook_heading_38 : decode b_DotBook_heading 38 = .ok (.iload_n 3, 1) := by decide +kernel
theorem d_DotBook_heading_39 : decode b_DotBook_heading 39 = .ok (.aaload, 1) := by decide +kernel
theorem d_DotBook_heading_40 : decode b_DotBook_heading 40 = .ok (.getfield 138, 3) := by decide +kernel
theorem d_DotBook_heading_43 : decode b_DotBook_heading 43 = .ok (.ifCond .le 13, 3) := by decide +kernel
theorem d_DotBook_heading_46 : decode b_DotBook_heading 46 = .ok (.iload_n 2, 1) := by decide +kernel
theorem d_DotBook_heading_47 : decode b_DotBook_heading 47 = .ok (.iload_n 1, 1) := by decide +kernel
theorem d_DotBook_heading_48 : decode b_DotBook_heading 48 = .ok (.if_icmp .ne 5, 3) := by decide +kernel
theorem d_DotBook_heading_51 : decode b_DotBook_heading 51 = .ok (.iload_n 3, 1) := by decide +kernel
theorem d_DotBook_heading_52 : decode b_DotBook_heading 52 = .ok (.ireturn, 1) := by decide +kernel
theorem d_DotBook_heading_53 : decode b_DotBook_heading 53 = .ok (.iinc 2 1, 3) := by decide +kernel
theorem d_DotBook_heading_56 : decode b_DotBook_heading 56 = .ok (.iinc 3 1, 3) := by decide +kernel
theorem d_DotBook_heading_59 : decode b_DotBook_heading 59 = .ok (.goto (-55), 3) := by decide +kernel
theorem d_DotBook_heading_62 : decode b_DotBook_heading 62 = .ok (.iconst (-1), 1) := by decide +kernel
theorem d_DotBook_heading_63 : decode b_DotBook_heading 63 = .ok (.ireturn, 1) := by decide +kernel
theorem d_DotBook_clear_0 : decode b_DotBook_clear 0 = .ok (.aload_n 0, 1) := by decide +kernel
theorem d_DotBook_clear_1 : decode b_DotBook_clear 1 = .ok (.getfield 55, 3) := by decide +kernel
theorem d_DotBook_clear_4 : decode b_DotBook_clear 4 = .ok (.invokevirtual 150, 3) := by decide +kernel
theorem d_DotBook_clear_7 : decode b_DotBook_clear 7 = .ok (.return_, 1) := by decide +kernel
theorem d_Block_init_0 : decode b_Block_init 0 = .ok (.aload_n 0, 1) := by decide +kernel
theorem d_Block_init_1 : decode b_Block_init 1 = .ok (.invokespecial 3, 3) := by decide +kernel
theorem d_Block_init_4 : decode b_Block_init 4 = .ok (.aload_n 0, 1) := by decide +kernel
theorem d_Block_init_5 : decode b_Block_init 5 = .ok (.sipush 200, 3) := by decide +kernel
theorem d_Block_init_8 : decode b_Block_init 8 = .ok (.newarray .int, 2) := by decide +kernel
theorem d_Block_init_10 : decode b_Block_init 10 = .ok (.putfield 9, 3) := by decide +kernel
theorem d_Block_init_13 : decode b_Block_init 13 = .ok (.aload_n 0, 1) := by decide +kernel
theorem d_Block_init_14 : decode b_Block_init 14 = .ok (.sipush 200, 3) := by decide +kernel
theorem d_Block_init_17 : decode b_Block_init 17 = .ok (.newarray .int, 2) := by decide +kernel
theorem d_Block_init_19 : decode b_Block_init 19 = .ok (.putfield 15, 3) := by decide +kernel
theorem d_Block_init_22 : decode b_Block_init 22 = .ok (.aload_n 0, 1) := by decide +kernel
theorem d_Block_init_23 : decode b_Block_init 23 = .ok (.sipush 200, 3) := by decide +kernel
theorem d_Block_init_26 : decode b_Block_init 26 = .ok (.newarray .int, 2) := by decide +kernel
theorem d_Block_init_28 : decode b_Block_init 28 = .ok (.putfield 18, 3) := by decide +kernel
theorem d_Block_init_31 : decode b_Block_init 31 = .ok (.return_, 1) := by decide +kernel
theorem d_Block_begin_0 : decode b_Block_begin 0 = .ok (.aload_n 0, 1) := by decide +kernel
theorem d_Block_begin_1 : decode b_Block_begin 1 = .ok (.iload_n 1, 1) := by decide +kernel
theorem d_Block_begin_2 : decode b_Block_begin 2 = .ok (.putfield 21, 3) := by decide +kernel
theorem d_Block_begin_5 : decode b_Block_begin 5 = .ok (.aload_n 0, 1) := by decide +kernel
theorem d_Block_begin_6 : decode b_Block_begin 6 = .ok (.iconst 0, 1) := by decide +kernel
theorem d_Block_begin_7 : decode b_Block_begin 7 = .ok (.putfield 25, 3) := by decide +kernel
theorem d_Block_begin_10 : decode b_Block_begin 10 = .ok (.return_, 1) := by decide +kernel
theorem d_Block_put_0 : decode b_Block_put 0 = .ok (.aload_n 0, 1) := by decide +kernel
theorem d_Block_put_1 : decode b_Block_put 1 = .ok (.getfield 25, 3) := by decide +kernel
theorem d_Block_put_4 : decode b_Block_put 4 = .ok (.aload_n 0, 1) := by decide +kernel
theorem d_Block_put_5 : decode b_Block_put 5 = .ok (.getfield 9, 3) := by decide +kernel
theorem d_Block_put_8 : decode b_Block_put 8 = .ok (.arraylength, 1) := by decide +kernel
theorem d_Block_put_9 : decode b_Block_put 9 = .ok (.if_icmp .ge 28, 3) := by decide +kernel
theorem d_Block_put_12 : decode b_Block_put 12 = .ok (.aload_n 0, 1) := by decide +kernel
theorem d_Block_put_13 : decode b_Block_put 13 = .ok (.getfield 9, 3) := by decide +kernel
theorem d_Block_put_16 : decode b_Block_put 16 = .ok (.aload_n 0, 1) := by decide +kernel
theorem d_Block_put_17 : decode b_Block_put 17 = .ok (.getfield 25, 3) := by decide +kernel
theorem d_Block_put_20 : decode b_Block_put 20 = .ok (.iload_n 1, 1) := by decide +kernel
theorem d_Block_put_21 : decode b_Block_put 21 = .ok (.bipush 64, 2) := by decide +kernel
theorem d_Block_put_23 : decode b_Block_put 23 = .ok (.iload_n 2, 1) := by decide +kernel
theorem d_Block_put_24 : decode b_Block_put 24 = .ok (.imul, 1) := by decide +kernel
theorem d_Block_put_25 : decode b_Block_put 25 = .ok (.iadd, 1) := by decide +kernel
theorem d_Block_put_26 : decode b_Block_put 26 = .ok (.iastore, 1) := by decide +kernel
theorem d_Block_put_27 : decode b_Block_put 27 = .ok (.aload_n 0, 1) := by decide +kernel
theorem d_Block_put_28 : decode b_Block_put 28 = .ok (.dup, 1) := by decide +kernel
theorem d_Block_put_29 : decode b_Block_put 29 = .ok (.getfield 25, 3) := by decide +kernel
theorem d_Block_put_32 : decode b_Block_put 32 = .ok (.iconst 1, 1) := by decide +kernel
theorem d_Block_put_33 : decode b_Block_put 33 = .ok (.iadd, 1) := by decide +kernel
theorem d_Block_put_34 : decode b_Block_put 34 = .ok (.putfield 25, 3) := by decide +kernel
theorem d_Block_put_37 : decode b_Block_put 37 = .ok (.return_, 1) := by decide +kernel
theorem d_Block_cellAt_0 : decode b_Block_cellAt 0 = .ok (.iload_n 1, 1) := by decide +kernel
theorem d_Block_cellAt_1 : decode b_Block_cellAt 1 = .ok (.ifCond .lt 23, 3) := by decide +kernel
theorem d_Block_cellAt_4 : decode b_Block_cellAt 4 = .ok (.iload_n 1, 1) := by decide +kernel
theorem d_Block_cellAt_5 : decode b_Block_cellAt 5 = .ok (.aload_n 0, 1) := by decide +kernel
theorem d_Block_cellAt_6 : decode b_Block_cellAt 6 = .ok (.getfield 25, 3) := by decide +kernel
theorem d_Block_cellAt_9 : decode b_Block_cellAt 9 = .ok (.if_icmp .ge 15, 3) := by decide +kernel
theorem d_Block_cellAt_12 : decode b_Block_cellAt 12 = .ok (.aload_n 0, 1) := by decide +kernel
theorem d_Block_cellAt_13 : decode b_Block_cellAt 13 = .ok (.getfield 9, 3) := by decide +kernel
theorem d_Block_cellAt_16 : decode b_Block_cellAt 16 = .ok (.iload_n 1, 1) := by decide +kernel
theorem d_Block_cellAt_17 : decode b_Block_cellAt 17 = .ok (.iaload, 1) := by decide +kernel
theorem d_Block_cellAt_18 : decode b_Block_cellAt 18 = .ok (.bipush 64, 2) := by decide +kernel
theorem d_Block_cellAt_20 : decode b_Block_cellAt 20 = .ok (.irem, 1) := by decide +kernel
theorem d_Block_cellAt_21 : decode b_Block_cellAt 21 = .ok (.goto 4, 3) := by decide +kernel
theorem d_Block_cellAt_24 : decode b_Block_cellAt 24 = .ok (.iconst 0, 1) := by decide +kernel
theorem d_Block_cellAt_25 : decode b_Block_cellAt 25 = .ok (.ireturn, 1) := by decide +kernel
theorem d_Block_endOfPiece_0 : decode b_Block_endOfPiece 0 = .ok (.iload_n 1, 1) := by decide +kernel
theorem d_Block_endOfPiece_1 : decode b_Block_endOfPiece 1 = .ok (.istore_n 2, 1) := by decide +kernel
theorem d_Block_endOfPiece_2 : decode b_Block_endOfPiece 2 = .ok (.iload_n 1, 1) := by decide +kernel
theorem d_Block_endOfPiece_3 : decode b_Block_endOfPiece 3 = .ok (.istore_n 3, 1) := by decide +kernel
theorem d_Block_endOfPiece_4 : decode b_Block_endOfPiece 4 = .ok (.iload_n 3, 1) := by decide +kernel
theorem d_Block_endOfPiece_5 : decode b_Block_endOfPiece 5 = .ok (.aload_n 0, 1) := by decide +kernel
theorem d_Block_endOfPiece_6 : decode b_Block_endOfPiece 6 = .ok (.getfield 25, 3) := by decide +kernel
theorem d_Block_endOfPiece_9 : decode b_Block_endOfPiece 9 = .ok (.if_icmp .ge 21, 3) := by decide +kernel
theorem d_Block_endOfPiece_12 : decode b_Block_endOfPiece 12 = .ok (.aload_n 0, 1) := by decide +kernel
theorem d_Block_endOfPiece_13 : decode b_Block_endOfPiece 13 = .ok (.iload_n 3, 1) := by decide +kernel
theorem d_Block_endOfPiece_14 : decode b_Block_endOfPiece 14 = .ok (.invokevirtual 28, 3) := by decide +kernel
theorem d_Block_endOfPiece_17 : decode b_Block_endOfPiece 17 = .ok (.ifCond .eq 13, 3) := by decide +kernel
theorem d_Block_endOfPiece_20 : decode b_Block_endOfPiece 20 = .ok (.iload_n 3, 1) := by decide +kernel
theorem d_Block_endOfPiece_21 : decode b_Block_endOfPiece 21 = .ok (.iconst 1, 1) := by decide +kernel
theorem d_Block_endOfPiece_22 : decode b_Block_endOfPiece 22 = .ok (.iadd, 1) := by decide +kernel
theorem d_Block_endOfPiece_23 : decode b_Block_endOfPiece 23 = .ok (.istore_n 2, 1) := by decide +kernel
theorem d_Block_endOfPiece_24 : decode b_Block_endOfPiece 24 = .ok (.iinc 3 1, 3) := by decide +kernel
theorem d_Block_endOfPiece_27 : decode b_Block_endOfPiece 27 = .ok (.goto (-23), 3) := by decide +kernel
theorem d_Block_endOfPiece_30 : decode b_Block_endOfPiece 30 = .ok (.iload_n 2, 1) := by decide +kernel
theorem d_Block_endOfPiece_31 : decode b_Block_endOfPiece 31 = .ok (.ireturn, 1) := by decide +kernel
theorem d_Block_cutIntoLines_0 : decode b_Block_cutIntoLines 0 = .ok (.aload_n 0, 1) := by decide +kernel
theorem d_Block_cutIntoLines_1 : decode b_Block_cutIntoLines 1 = .ok (.iconst 0, 1) := by decide +kernel
theorem d_Block_cutIntoLines_2 : decode b_Block_cutIntoLines 2 = .ok (.putfield 32, 3) := by decide +kernel
theorem d_Block_cutIntoLines_5 : decode b_Block_cutIntoLines 5 = .ok (.aload_n 0, 1) := by decide +kernel
theorem d_Block_cutIntoLines_6 : decode b_Block_cutIntoLines 6 = .ok (.iconst 0, 1) := by decide +kernel
theorem d_Block_cutIntoLines_7 : decode b_Block_cutIntoLines 7 = .ok (.putfield 35, 3) := by decide +kernel
theorem d_Block_cutIntoLines_10 : decode b_Block_cutIntoLines 10 = .ok (.iconst 0, 1) := by decide +kernel
theorem d_Block_cutIntoLines_11 : decode b_Block_cutIntoLines 11 = .ok (.istore_n 2, 1) := by decide +kernel
theorem d_Block_cutIntoLines_12 : decode b_Block_cutIntoLines 12 = .ok (.iload_n 2, 1) := by decide +kernel
theorem d_Block_cutIntoLines_13 : decode b_Block_cutIntoLines 13 = .ok (.aload_n 0, 1) := by decide +kernel
theorem d_Block_cutIntoLines_14 : decode b_Block_cutIntoLines 14 = .ok (.getfield 25, 3) := by decide +kernel
theorem d_Block_cutIntoLines_17 : decode b_Block_cutIntoLines 17 = .ok (.if_icmp .ge 38, 3) := by decide +kernel
theorem d_Block_cutIntoLines_20 : decode b_Block_cutIntoLines 20 = .ok (.aload_n 0, 1) := by decide +kernel
theorem d_Block_cutIntoLines_21 : decode b_Block_cutIntoLines 21 = .ok (.iload_n 2, 1) := by decide +kernel
theorem d_Block_cutIntoLines_22 : decode b_Block_cutIntoLines 22 = .ok (.invokevirtual 28, 3) := by decide +kernel
theorem d_Block_cutIntoLines_25 : decode b_Block_cutIntoLines 25 = .ok (.ifCond .eq 24, 3) := by decide +kernel
theorem d_Block_cutIntoLines_28 : decode b_Block_cutIntoLines 28 = .ok (.aload_n 0, 1) := by decide +kernel
theorem d_Block_cutIntoLines_29 : decode b_Block_cutIntoLines 29 = .ok (.iload_n 2, 1) := by decide +kernel
theorem d_Block_cutIntoLines_30 : decode b_Block_cutIntoLines 30 = .ok (.iconst 1, 1) := by decide +kernel
theorem d_Block_cutIntoLines_31 : decode b_Block_cutIntoLines 31 = .ok (.isub, 1) := by decide +kernel
theorem d_Block_cutIntoLines_32 : decode b_Block_cutIntoLines 32 = .ok (.invokevirtual 28, 3) := by decide +kernel
theorem d_Block_cutIntoLines_35 : decode b_Block_cutIntoLines 35 = .ok (.ifCond .ne 14, 3) := by decide +kernel
theorem d_Block_cutIntoLines_38 : decode b_Block_cutIntoLines 38 = .ok (.aload_n 0, 1) := by decide +kernel
theorem d_Block_cutIntoLines_39 : decode b_Block_cutIntoLines 39 = .ok (.iload_n 2, 1) := by decide +kernel
theorem d_Block_cutIntoLines_40 : decode b_Block_cutIntoLines 40 = .ok (.aload_n 0, 1) := by decide +kernel
theorem d_Block_cutIntoLines_41 : decode b_Block_cutIntoLines 41 = .ok (.iload_n 2, 1) := by decide +kernel
theorem d_Block_cutIntoLines_42 : decode b_Block_cutIntoLines 42 = .ok (.invokevirtual 38, 3) := by decide +kernel
theorem d_Block_cutIntoLines_45 : decode b_Block_cutIntoLines 45 = .ok (.iload_n 1, 1) := by decide +kernel
theorem d_Block_cutIntoLines_46 : decode b_Block_cutIntoLines 46 = .ok (.invokevirtual 41, 3) := by decide +kernel
theorem d_Block_cutIntoLines_49 : decode b_Block_cutIntoLines 49 = .ok (.iinc 2 1, 3) := by decide +kernel
theorem d_Block_cutIntoLines_52 : decode b_Block_cutIntoLines 52 = .ok (.goto (-40), 3) := by decide +kernel
theorem d_Block_cutIntoLines_55 : decode b_Block_cutIntoLines 55 = .ok (.return_, 1) := by decide +kernel
theorem d_Block_layPiece_0 : decode b_Block_layPiece 0 = .ok (.aload_n 0, 1) := by decide +kernel
theorem d_Block_layPiece_1 : decode b_Block_layPiece 1 = .ok (.getfield 35, 3) := by decide +kernel
theorem d_Block_layPiece_4 : decode b_Block_layPiece 4 = .ok (.ifCond .le 20, 3) := by decide +kernel
theorem d_Block_layPiece_7 : decode b_Block_layPiece 7 = .ok (.aload_n 0, 1) := by decide +kernel
theorem d_Block_layPiece_8 : decode b_Block_layPiece 8 = .ok (.iload_n 3, 1) := by decide +kernel
theorem d_Block_layPiece_9 : decode b_Block_layPiece 9 = .ok (.invokevirtual 45, 3) := by decide +kernel
theorem d_Block_layPiece_12 : decode b_Block_layPiece 12 = .ok (.iconst 1, 1) := by decide +kernel
theorem d_Block_layPiece_13 : decode b_Block_layPiece 13 = .ok (.iload_n 2, 1) := by decide +kernel
theorem d_Block_layPiece_14 : decode b_Block_layPiece 14 = .ok (.iadd, 1) := by decide +kernel
theorem d_Block_layPiece_15 : decode b_Block_layPiece 15 = .ok (.iload_n 1, 1) := by decide +kernel
theorem d_Block_layPiece_16 : decode b_Block_layPiece 16 = .ok (.isub, 1) := by decide +kernel
theorem d_Block_layPiece_17 : decode b_Block_layPiece 17 = .ok (.if_icmp .lt 7, 3) := by decide +kernel
theorem d_Block_layPiece_20 : decode b_Block_layPiece 20 = .ok (.iconst 1, 1) := by decide +kernel
theorem d_Block_layPiece_21 : decode b_Block_layPiece 21 = .ok (.goto 4, 3) := by decide +kernel
theorem d_Block_layPiece_24 : decode b_Block_layPiece 24 = .ok (.iconst 0, 1) := by decide +kernel
theorem d_Block_layPiece_25 : decode b_Block_layPiece 25 = .ok (.istore 4, 2) := by decide +kernel
theorem d_Block_layPiece_27 : decode b_Block_layPiece 27 = .ok (.iload 4, 2) := by decide +kernel
theorem d_Block_layPiece_29 : decode b_Block_layPiece 29 = .ok (.ifCond .eq 11, 3) := by decide +kernel
theorem d_Block_layPiece_32 : decode b_Block_layPiece 32 = .ok (.aload_n 0, 1) := by decide +kernel
theorem d_Block_layPiece_33 : decode b_Block_layPiece 33 = .ok (.iconst 0, 1) := by decide +kernel
theorem d_Block_layPiece_34 : decode b_Block_layPiece 34 = .ok (.invokevirtual 48, 3) := by decide +kernel
theorem d_Block_layPiece_37 : decode b_Block_layPiece 37 = .ok (.goto 7, 3) := by decide +kernel
theorem d_Block_layPiece_40 : decode b_Block_layPiece 40 = .ok (.aload_n 0, 1) := by decide +kernel
theorem d_Block_layPiece_41 : decode b_Block_layPiece 41 = .ok (.invokevirtual 52, 3) := by decide +kernel
theorem d_Block_layPiece_44 : decode b_Block_layPiece 44 = .ok (.iload_n 1, 1) := by decide +kernel
theorem d_Block_layPiece_45 : decode b_Block_layPiece 45 = .ok (.istore 5, 2) := by decide +kernel
theorem d_Block_layPiece_47 : decode b_Block_layPiece 47 = .ok (.iload 5, 2) := by decide +kernel
theorem d_Block_layPiece_49 : decode b_Block_layPiece 49 = .ok (.iload_n 2, 1) := by decide +kernel
theorem d_Block_layPiece_50 : decode b_Block_layPiece 50 = .ok (.if_icmp .ge 31, 3) := by decide +kernel
theorem d_Block_layPiece_53 : decode b_Block_layPiece 53 = .ok (.aload_n 0, 1) := by decide +kernel
theorem d_Block_layPiece_54 : decode b_Block_layPiece 54 = .ok (.iload_n 3, 1) := by decide +kernel
theorem d_Block_layPiece_55 : decode b_Block_layPiece 55 = .ok (.invokevirtual 45, 3) := by decide +kernel
theorem d_Block_layPiece_58 : decode b_Block_layPiece 58 = .ok (.ifCond .gt 7, 3) := by decide +kernel
theorem d_Block_layPiece_61 : decode b_Block_layPiece 61 = .ok (.aload_n 0, 1) := by decide +kernel
theorem d_Block_layPiece_62 : decode b_Block_layPiece 62 = .ok (.invokevirtual 52, 3) := by decide +kernel
theorem d_Block_layPiece_65 : decode b_Block_layPiece 65 = .ok (.aload_n 0, 1) := by decide +kernel
theorem d_Block_layPiece_66 : decode b_Block_layPiece 66 = .ok (.aload_n 0, 1) := by decide +kernel
theorem d_Block_layPiece_67 : decode b_Block_layPiece 67 = .ok (.iload 5, 2) := by decide +kernel
theorem d_Block_layPiece_69 : decode b_Block_layPiece 69 = .ok (.invokevirtual 28, 3) := by decide +kernel
theorem d_Block_layPiece_72 : decode b_Block_layPiece 72 = .ok (.invokevirtual 48, 3) := by decide +kernel
theorem d_Block_layPiece_75 : decode b_Block_layPiece 75 = .ok (.iinc 5 1, 3) := by decide +kernel
theorem d_Block_layPiece_78 : decode b_Block_layPiece 78 = .ok (.goto (-31), 3) := by decide +kernel
theorem d_Block_layPiece_81 : decode b_Block_layPiece 81 = .ok (.return_, 1) := by decide +kernel
theorem d_Block_roomLeft_0 : decode b_Block_roomLeft 0 = .ok (.aload_n 0, 1) := by decide +kernel
theorem d_Block_roomLeft_1 : decode b_Block_roomLeft 1 = .ok (.getfield 35, 3) := by decide +kernel
theorem d_Block_roomLeft_4 : decode b_Block_roomLeft 4 = .ok (.iconst 1, 1) := by decide +kernel
theorem d_Block_roomLeft_5 : decode b_Block_roomLeft 5 = .ok (.isub, 1) := by decide +kernel
theorem d_Block_roomLeft_6 : decode b_Block_roomLeft 6 = .ok (.istore_n 2, 1) := by decide +kernel
theorem d_Block_roomLeft_7 : decode b_Block_roomLeft 7 = .ok (.iload_n 1, 1) := by decide +kernel
theorem d_Block_roomLeft_8 : decode b_Block_roomLeft 8 = .ok (.aload_n 0, 1) := by decide +kernel
theorem d_Block_roomLeft_9 : decode b_Block_roomLeft 9 = .ok (.iload_n 2, 1) := by decide +kernel
theorem d_Block_roomLeft_10 : decode b_Block_roomLeft 10 = .ok (.invokevirtual 55, 3) := by decide +kernel
theorem d_Block_roomLeft_13 : decode b_Block_roomLeft 13 = .ok (.isub, 1) := by decide +kernel
theorem d_Block_roomLeft_14 : decode b_Block_roomLeft 14 = .ok (.aload_n 0, 1) := by decide +kernel
theorem d_Block_roomLeft_15 : decode b_Block_roomLeft 15 = .ok (.iload_n 2, 1) := by decide +kernel
theorem d_Block_roomLeft_16 : decode b_Block_roomLeft 16 = .ok (.invokevirtual 58, 3) := by decide +kernel
theorem d_Block_roomLeft_19 : decode b_Block_roomLeft 19 = .ok (.isub, 1) := by decide +kernel
theorem d_Block_roomLeft_20 : decode b_Block_roomLeft 20 = .ok (.ireturn, 1) := by decide +kernel
theorem d_Block_beginLine_0 : decode b_Block_beginLine 0 = .ok (.aload_n 0, 1) := by decide +kernel
theorem d_Block_beginLine_1 : decode b_Block_beginLine 1 = .ok (.getfield 35, 3) := by decide +kernel
theorem d_Block_beginLine_4 : decode b_Block_beginLine 4 = .ok (.aload_n 0, 1) := by decide +kernel
theorem d_Block_beginLine_5 : decode b_Block_beginLine 5 = .ok (.getfield 18, 3) := by decide +kernel
theorem d_Block_beginLine_8 : decode b_Block_beginLine 8 = .ok (.arraylength, 1) := by decide +kernel
theorem d_Block_beginLine_9 : decode b_Block_beginLine 9 = .ok (.if_icmp .ge 26, 3) := by decide +kernel
theorem d_Block_beginLine_12 : decode b_Block_beginLine 12 = .ok (.aload_n 0, 1) := by decide +kernel
theorem d_Block_beginLine_13 : decode b_Block_beginLine 13 = .ok (.getfield 18, 3) := by decide +kernel
theorem d_Block_beginLine_16 : decode b_Block_beginLine 16 = .ok (.aload_n 0, 1) := by decide +kernel
theorem d_Block_beginLine_17 : decode b_Block_beginLine 17 = .ok (.getfield 35, 3) := by decide +kernel
theorem d_Block_beginLine_20 : decode b_Block_beginLine 20 = .ok (.aload_n 0, 1) := by decide +kernel
theorem d_Block_beginLine_21 : decode b_Block_beginLine 21 = .ok (.getfield 32, 3) := by decide +kernel
theorem d_Block_beginLine_24 : decode b_Block_beginLine 24 = .ok (.iastore, 1) := by decide +kernel
theorem d_Block_beginLine_25 : decode b_Block_beginLine 25 = .ok (.aload_n 0, 1) := by decide +kernel
theorem d_Block_beginLine_26 : decode b_Block_beginLine 26 = .ok (.dup, 1) := by decide +kernel
theorem d_Block_beginLine_27 : decode b_Block_beginLine 27 = .ok (.getfield 35, 3) := by decide +kernel
theorem d_Block_beginLine_30 : decode b_Block_beginLine 30 = .ok (.iconst 1, 1) := by decide +kernel
theorem d_Block_beginLine_31 : decode b_Block_beginLine 31 = .ok (.iadd, 1) := by decide +kernel
theorem d_Block_beginLine_32 : decode b_Block_beginLine 32 = .ok (.putfield 35, 3) := by decide +kernel
theorem d_Block_beginLine_35 : decode b_Block_beginLine 35 = .ok (.return_, 1) := by decide +kernel
theorem d_Block_layCell_0 : decode b_Block_layCell 0 = .ok (.aload_n 0, 1) := by decide +kernel
theorem d_Block_layCell_1 : decode b_Block_layCell 1 = .ok (.getfield 32, 3) := by decide +kernel
theorem d_Block_layCell_4 : decode b_Block_layCell 4 = .ok (.aload_n 0, 1) := by decide +kernel
theorem d_Block_layCell_5 : decode b_Block_layCell 5 = .ok (.getfield 15, 3) := by decide +kernel
theorem d_Block_layCell_8 : decode b_Block_layCell 8 = .ok (.arraylength, 1) := by decide +kernel
theorem d_Block_layCell_9 : decode b_Block_layCell 9 = .ok (.if_icmp .ge 23, 3) := by decide +kernel
theorem d_Block_layCell_12 : decode b_Block_layCell 12 = .ok (.aload_n 0, 1) := by decide +kernel
theorem d_Block_layCell_13 : decode b_Block_layCell 13 = .ok (.getfield 15, 3) := by decide +kernel
theorem d_Block_layCell_16 : decode b_Block_layCell 16 = .ok (.aload_n 0, 1) := by decide +kernel
theorem d_Block_layCell_17 : decode b_Block_layCell 17 = .ok (.getfield 32, 3) := by decide +kernel
theorem d_Block_layCell_20 : decode b_Block_layCell 20 = .ok (.iload_n 1, 1) := by decide +kernel
theorem d_Block_layCell_21 : decode b_Block_layCell 21 = .ok (.iastore, 1) := by decide +kernel
theorem d_Block_layCell_22 : decode b_Block_layCell 22 = .ok (.aload_n 0, 1) := by decide +kernel
theorem d_Block_layCell_23 : decode b_Block_layCell 23 = .ok (.dup, 1) := by decide +kernel
theorem d_Block_layCell_24 : decode b_Block_layCell 24 = .ok (.getfield 32, 3) := by decide +kernel
theorem d_Block_layCell_27 : decode b_Block_layCell 27 = .ok (.iconst 1, 1) := by decide +kernel
theorem d_Block_layCell_28 : decode b_Block_layCell 28 = .ok (.iadd, 1) := by decide +kernel
theorem d_Block_layCell_29 : decode b_Block_layCell 29 = .ok (.putfield 32, 3) := by decide +kernel
theorem d_Block_layCell_32 : decode b_Block_layCell 32 = .ok (.return_, 1) := by decide +kernel
theorem d_Block_indentOf_0 : decode b_Block_indentOf 0 = .ok (.aload_n 0, 1) := by decide +kernel
theorem d_Block_indentOf_1 : decode b_Block_indentOf 1 = .ok (.getfield 21, 3) := by decide +kernel
theorem d_Block_indentOf_4 : decode b_Block_indentOf 4 = .ok (.ifCond .ne 13, 3) := by decide +kernel
theorem d_Block_indentOf_7 : decode b_Block_indentOf 7 = .ok (.iload_n 1, 1) := by decide +kernel
theorem d_Block_indentOf_8 : decode b_Block_indentOf 8 = .ok (.ifCond .ne 7, 3) := by decide +kernel
theorem d_Block_indentOf_11 : decode b_Block_indentOf 11 = .ok (.iconst 2, 1) := by decide +kernel
theorem d_Block_indentOf_12 : decode b_Block_indentOf 12 = .ok (.goto 4, 3) := by decide +kernel
theorem d_Block_indentOf_15 : decode b_Block_indentOf 15 = .ok (.iconst 0, 1) := by decide +kernel
theorem d_Block_indentOf_16 : decode b_Block_indentOf 16 = .ok (.ireturn, 1) := by decide +kernel
theorem d_Block_indentOf_17 : decode b_Block_indentOf 17 = .ok (.aload_n 0, 1) := by decide +kernel
theorem d_Block_indentOf_18 : decode b_Block_indentOf 18 = .ok (.getfield 21, 3) := by decide +kernel
theorem d_Block_indentOf_21 : decode b_Block_indentOf 21 = .ok (.iconst 2, 1) := by decide +kernel
theorem d_Block_indentOf_22 : decode b_Block_indentOf 22 = .ok (.if_icmp .ne 11, 3) := by decide +kernel
theorem d_Block_indentOf_25 : decode b_Block_indentOf 25 = .ok (.iload_n 1, 1) := by decide +kernel
theorem d_Block_indentOf_26 : decode b_Block_indentOf 26 = .ok (.ifCond .le 7, 3) := by decide +kernel
theorem d_Block_indentOf_29 : decode b_Block_indentOf 29 = .ok (.iconst 4, 1) := by decide +kernel
theorem d_Block_indentOf_30 : decode b_Block_indentOf 30 = .ok (.goto 4, 3) := by decide +kernel
theorem d_Block_indentOf_33 : decode b_Block_indentOf 33 = .ok (.iconst 0, 1) := by decide +kernel
theorem d_Block_indentOf_34 : decode b_Block_indentOf 34 = .ok (.ireturn, 1) := by decide +kernel
theorem d_Block_lengthOf_0 : decode b_Block_lengthOf 0 = .ok (.iload_n 1, 1) := by decide +kernel
theorem d_Block_lengthOf_1 : decode b_Block_lengthOf 1 = .ok (.ifCond .lt 11, 3) := by decide +kernel
theorem d_Block_lengthOf_4 : decode b_Block_lengthOf 4 = .ok (.iload_n 1, 1) := by decide +kernel
theorem d_Block_lengthOf_5 : decode b_Block_lengthOf 5 = .ok (.aload_n 0, 1) := by decide +kernel
theorem d_Block_lengthOf_6 : decode b_Block_lengthOf 6 = .ok (.getfield 35, 3) := by decide +kernel
theorem d_Block_lengthOf_9 : decode b_Block_lengthOf 9 = .ok (.if_icmp .lt 5, 3) := by decide +kernel
theorem d_Block_lengthOf_12 : decode b_Block_lengthOf 12 = .ok (.iconst 0, 1) := by decide +kernel
theorem d_Block_lengthOf_13 : decode b_Block_lengthOf 13 = .ok (.ireturn, 1) := by decide +kernel
theorem d_Block_lengthOf_14 : decode b_Block_lengthOf 14 = .ok (.iload_n 1, 1) := by decide +kernel
theorem d_Block_lengthOf_15 : decode b_Block_lengthOf 15 = .ok (.iconst 1, 1) := by decide +kernel
theorem d_Block_lengthOf_16 : decode b_Block_lengthOf 16 = .ok (.iadd, 1) := by decide +kernel
theorem d_Block_lengthOf_17 : decode b_Block_lengthOf 17 = .ok (.aload_n 0, 1) := by decide +kernel
theorem d_Block_lengthOf_18 : decode b_Block_lengthOf 18 = .ok (.getfield 35, 3) := by decide +kernel
theorem d_Block_lengthOf_21 : decode b_Block_lengthOf 21 = .ok (.if_icmp .ge 14, 3) := by decide +kernel
theorem d_Block_lengthOf_24 : decode b_Block_lengthOf 24 = .ok (.aload_n 0, 1) := by decide +kernel
theorem d_Block_lengthOf_25 : decode b_Block_lengthOf 25 = .ok (.getfield 18, 3) := by decide +kernel
theorem d_Block_lengthOf_28 : decode b_Block_lengthOf 28 = .ok (.iload_n 1, 1) := by decide +kernel
theorem d_Block_lengthOf_29 : decode b_Block_lengthOf 29 = .ok (.iconst 1, 1) := by decide +kernel
theorem d_Block_lengthOf_30 : decode b_Block_lengthOf 30 = .ok (.iadd, 1) := by decide +kernel
theorem d_Block_lengthOf_31 : decode b_Block_lengthOf 31 = .ok (.iaload, 1) := by decide +kernel
theorem d_Block_lengthOf_32 : decode b_Block_lengthOf 32 = .ok (.goto 7, 3) := by decide +kernel
theorem d_Block_lengthOf_35 : decode b_Block_lengthOf 35 = .ok (.aload_n 0, 1) := by decide +kernel
theorem d_Block_lengthOf_36 : decode b_Block_lengthOf 36 = .ok (.getfield 32, 3) := by decide +kernel
theorem d_Block_lengthOf_39 : decode b_Block_lengthOf 39 = .ok (.istore_n 2, 1) := by decide +kernel
theorem d_Block_lengthOf_40 : decode b_Block_lengthOf 40 = .ok (.iload_n 2, 1) := by decide +kernel
theorem d_Block_lengthOf_41 : decode b_Block_lengthOf 41 = .ok (.aload_n 0, 1) := by decide +kernel
theorem d_Block_lengthOf_42 : decode b_Block_lengthOf 42 = .ok (.getfield 18, 3) := by decide +kernel
theorem d_Block_lengthOf_45 : decode b_Block_lengthOf 45 = .ok (.iload_n 1, 1) := by decide +kernel
theorem d_Block_lengthOf_46 : decode b_Block_lengthOf 46 = .ok (.iaload, 1) := by decide +kernel
theorem d_Block_lengthOf_47 : decode b_Block_lengthOf 47 = .ok (.isub, 1) := by decide +kernel
theorem d_Block_lengthOf_48 : decode b_Block_lengthOf 48 = .ok (.ireturn, 1) := by decide +kernel
theorem d_Block_cellOfLine_0 : decode b_Block_cellOfLine 0 = .ok (.aload_n 0, 1) := by decide +kernel
theorem d_Block_cellOfLine_1 : decode b_Block_cellOfLine 1 = .ok (.iload_n 1, 1) := by decide +kernel
theorem d_Block_cellOfLine_2 : decode b_Block_cellOfLine 2 = .ok (.invokevirtual 58, 3) := by decide +kernel
theorem d_Block_cellOfLine_5 : decode b_Block_cellOfLine 5 = .ok (.istore 4, 2) := by decide +kernel
theorem d_Block_cellOfLine_7 : decode b_Block_cellOfLine 7 = .ok (.iload_n 2, 1) := by decide +kernel
theorem d_Block_cellOfLine_8 : decode b_Block_cellOfLine 8 = .ok (.aload_n 0, 1) := by decide +kernel
theorem d_Block_cellOfLine_9 : decode b_Block_cellOfLine 9 = .ok (.getfield 21, 3) := by decide +kernel
theorem d_Block_cellOfLine_12 : decode b_Block_cellOfLine 12 = .ok (.iconst 1, 1) := by decide +kernel
theorem d_Block_cellOfLine_13 : decode b_Block_cellOfLine 13 = .ok (.if_icmp .ne 12, 3) := by decide +kernel
theorem d_Block_cellOfLine_16 : decode b_Block_cellOfLine 16 = .ok (.iload_n 3, 1) := by decide +kernel
theorem d_Block_cellOfLine_17 : decode b_Block_cellOfLine 17 = .ok (.iload 4, 2) := by decide +kernel
theorem d_Block_cellOfLine_19 : decode b_Block_cellOfLine 19 = .ok (.isub, 1) := by decide +kernel
theorem d_Block_cellOfLine_20 : decode b_Block_cellOfLine 20 = .ok (.iconst 2, 1) := by decide +kernel
theorem d_Block_cellOfLine_21 : decode b_Block_cellOfLine 21 = .ok (.idiv, 1) := by decide +kernel
theorem d_Block_cellOfLine_22 : decode b_Block_cellOfLine 22 = .ok (.goto 8, 3) := by decide +kernel
theorem d_Block_cellOfLine_25 : decode b_Block_cellOfLine 25 = .ok (.aload_n 0, 1) := by decide +kernel
theorem d_Block_cellOfLine_26 : decode b_Block_cellOfLine 26 = .ok (.iload_n 1, 1) := by decide +kernel
theorem d_Block_cellOfLine_27 : decode b_Block_cellOfLine 27 = .ok (.invokevirtual 55, 3) := by decide +kernel
theorem d_Block_cellOfLine_30 : decode b_Block_cellOfLine 30 = .ok (.isub, 1) := by decide +kernel
theorem d_Block_cellOfLine_31 : decode b_Block_cellOfLine 31 = .ok (.istore 5, 2) := by decide +kernel
theorem d_Block_cellOfLine_33 : decode b_Block_cellOfLine 33 = .ok (.iload 5, 2) := by decide +kernel
theorem d_Block_cellOfLine_35 : decode b_Block_cellOfLine 35 = .ok (.ifCond .lt 27, 3) := by decide +kernel
theorem d_Block_cellOfLine_38 : decode b_Block_cellOfLine 38 = .ok (.iload 5, 2) := by decide +kernel
theorem d_Block_cellOfLine_40 : decode b_Block_cellOfLine 40 = .ok (.iload 4, 2) := by decide +kernel
theorem d_Block_cellOfLine_42 : decode b_Block_cellOfLine 42 = .ok (.if_icmp .ge 20, 3) := by decide +kernel
theorem d_Block_cellOfLine_45 : decode b_Block_cellOfLine 45 = .ok (.aload_n 0, 1) := by decide +kernel
theorem d_Block_cellOfLine_46 : decode b_Block_cellOfLine 46 = .ok (.getfield 15, 3) := by decide +kernel
theorem d_Block_cellOfLine_49 : decode b_Block_cellOfLine 49 = .ok (.aload_n 0, 1) := by decide +kernel
theorem d_Block_cellOfLine_50 : decode b_Block_cellOfLine 50 = .ok (.getfield 18, 3) := by decide +kernel
theorem d_Block_cellOfLine_53 : decode b_Block_cellOfLine 53 = .ok (.iload_n 1, 1) := by decide +kernel
theorem d_Block_cellOfLine_54 : decode b_Block_cellOfLine 54 = .ok (.iaload, 1) := by decide +kernel
theorem d_Block_cellOfLine_55 : decode b_Block_cellOfLine 55 = .ok (.iload 5, 2) := by decide +kernel
theorem d_Block_cellOfLine_57 : decode b_Block_cellOfLine 57 = .ok (.iadd, 1) := by decide +kernel
theorem d_Block_cellOfLine_58 : decode b_Block_cellOfLine 58 = .ok (.iaload, 1) := by decide +kernel
theorem d_Block_cellOfLine_59 : decode b_Block_cellOfLine 59 = .ok (.goto 4, 3) := by decide +kernel
theorem d_Block_cellOfLine_62 : decode b_Block_cellOfLine 62 = .ok (.iconst 0, 1) := by decide +kernel
theorem d_Block_cellOfLine_63 : decode b_Block_cellOfLine 63 = .ok (.ireturn, 1) := by decide +kernel
theorem d_Book_init_0 : decode b_Book_init 0 = .ok (.aload_n 0, 1) := by decide +kernel
theorem d_Book_init_1 : decode b_Book_init 1 = .ok (.invokespecial 3, 3) := by decide +kernel
theorem d_Book_init_4 : decode b_Book_init 4 = .ok (.aload_n 0, 1) := by decide +kernel
theorem d_Book_init_5 : decode b_Book_init 5 = .ok (.bipush 12, 2) := by decide +kernel
theorem d_Book_init_7 : decode b_Book_init 7 = .ok (.anewarray 9, 3) := by decide +kernel
theorem d_Book_init_10 : decode b_Book_init 10 = .ok (.putfield 11, 3) := by decide +kernel
theorem d_Book_init_13 : decode b_Book_init 13 = .ok (.aload_n 0, 1) := by decide +kernel
theorem d_Book_init_14 : decode b_Book_init 14 = .ok (.iconst 1, 1) := by decide +kernel
theorem d_Book_init_15 : decode b_Book_init 15 = .ok (.putfield 17, 3) := by decide +kernel
theorem d_Book_init_18 : decode b_Book_init 18 = .ok (.aload_n 0, 1) := by decide +kernel
theorem d_Book_init_19 : decode b_Book_init 19 = .ok (.iconst 1, 1) := by decide +kernel
theorem d_Book_init_20 : decode b_Book_init 20 = .ok (.putfield 21, 3) := by decide +kernel
theorem d_Book_init_23 : decode b_Book_init 23 = .ok (.aload_n 0, 1) := by decide +kernel
theorem d_Book_init_24 : decode b_Book_init 24 = .ok (.iload_n 1, 1) := by decide +kernel
theorem d_Book_init_25 : decode b_Book_init 25 = .ok (.putfield 24, 3) := by decide +kernel
theorem d_Book_init_28 : decode b_Book_init 28 = .ok (.aload_n 0, 1) := by decide +kernel
theorem d_Book_init_29 : decode b_Book_init 29 = .ok (.iload_n 2, 1) := by decide +kernel
theorem d_Book_init_30 : decode b_Book_init 30 = .ok (.putfield 27, 3) := by decide +kernel
theorem d_Book_init_33 : decode b_Book_init 33 = .ok (.aload_n 0, 1) := by decide +kernel
theorem d_Book_init_34 : decode b_Book_init 34 = .ok (.iload_n 2, 1) := by decide +kernel
theorem d_Book_init_35 : decode b_Book_init 35 = .ok (.iconst 1, 1) := by decide +kernel
theorem d_Book_init_36 : decode b_Book_init 36 = .ok (.isub, 1) := by decide +kernel
theorem d_Book_init_37 : decode b_Book_init 37 = .ok (.putfield 30, 3) := by decide +kernel
theorem d_Book_init_40 : decode b_Book_init 40 = .ok (.iconst 0, 1) := by decide +kernel
theorem d_Book_init_41 : decode b_Book_init 41 = .ok (.istore_n 3, 1) := by decide +kernel
theorem d_Book_init_42 : decode b_Book_init 42 = .ok (.iload_n 3, 1) := by decide +kernel
theorem d_Book_init_43 : decode b_Book_init 43 = .ok (.aload_n 0, 1) := by decide +kernel
theorem d_Book_init_44 : decode b_Book_init 44 = .ok (.getfield 11, 3) := by decide +kernel
theorem d_Book_init_47 : decode b_Book_init 47 = .ok (.arraylength, 1) := by decide +kernel
theorem d_Book_init_48 : decode b_Book_init 48 = .ok (.if_icmp .ge 22, 3) := by decide +kernel
theorem d_Book_init_51 : decode b_Book_init 51 = .ok (.aload_n 0, 1) := by decide +kernel
theorem d_Book_init_52 : decode b_Book_init 52 = .ok (.getfield 11, 3) := by decide +kernel
theorem d_Book_init_55 : decode b_Book_init 55 = .ok (.iload_n 3, 1) := by decide +kernel
theorem d_Book_init_56 : decode b_Book_init 56 = .ok (.new 9, 3) := by decide +kernel
theorem d_Book_init_59 : decode b_Book_init 59 = .ok (.dup, 1) := by decide +kernel
theorem d_Book_init_60 : decode b_Book_init 60 = .ok (.invokespecial 33, 3) := by decide +kernel
theorem d_Book_init_63 : decode b_Book_init 63 = .ok (.aastore, 1) := by decide +kernel
theorem d_Book_init_64 : decode b_Book_init 64 = .ok (.iinc 3 1, 3) := by decide +kernel
theorem d_Book_init_67 : decode b_Book_init 67 = .ok (.goto (-25), 3) := by decide +kernel
theorem d_Book_init_70 : decode b_Book_init 70 = .ok (.return_, 1) := by decide +kernel
theorem d_Book_empty_0 : decode b_Book_empty 0 = .ok (.aload_n 0, 1) := by decide +kernel
theorem d_Book_empty_1 : decode b_Book_empty 1 = .ok (.iconst 0, 1) := by decide +kernel
theorem d_Book_empty_2 : decode b_Book_empty 2 = .ok (.putfield 34, 3) := by decide +kernel
theorem d_Book_empty_5 : decode b_Book_empty 5 = .ok (.aload_n 0, 1) := by decide +kernel
theorem d_Book_empty_6 : decode b_Book_empty 6 = .ok (.iconst 1, 1) := by decide +kernel
theorem d_Book_empty_7 : decode b_Book_empty 7 = .ok (.putfield 17, 3) := by decide +kernel
theorem d_Book_empty_10 : decode b_Book_empty 10 = .ok (.aload_n 0, 1) := by decide +kernel
theorem d_Book_empty_11 : decode b_Book_empty 11 = .ok (.iconst 0, 1) := by decide +kernel
theorem d_Book_empty_12 : decode b_Book_empty 12 = .ok (.putfield 37, 3) := by decide +kernel
theorem d_Book_empty_15 : decode b_Book_empty 15 = .ok (.aload_n 0, 1) := by decide +kernel
theorem d_Book_empty_16 : decode b_Book_empty 16 = .ok (.iconst 1, 1) := by decide +kernel
theorem d_Book_empty_17 : decode b_Book_empty 17 = .ok (.putfield 21, 3) := by decide +kernel
theorem d_Book_empty_20 : decode b_Book_empty 20 = .ok (.return_, 1) := by decide +kernel
theorem d_Book_layOut_0 : decode b_Book_layOut 0 = .ok (.aload_n 1, 1) := by decide +kernel
theorem d_Book_layOut_1 : decode b_Book_layOut 1 = .ok (.aload_n 0, 1) := by decide +kernel
theorem d_Book_layOut_2 : decode b_Book_layOut 2 = .ok (.getfield 24, 3) := by decide +kernel
theorem d_Book_layOut_5 : decode b_Book_layOut 5 = .ok (.invokevirtual 40, 3) := by decide +kernel
theorem d_Book_layOut_8 : decode b_Book_layOut 8 = .ok (.aload_n 1, 1) := by decide +kernel
theorem d_Book_layOut_9 : decode b_Book_layOut 9 = .ok (.getfield 44, 3) := by decide +kernel
theorem d_Book_layOut_12 : decode b_Book_layOut 12 = .ok (.iconst 3, 1) := by decide +kernel
theorem d_Book_layOut_13 : decode b_Book_layOut 13 = .ok (.if_icmp .ne 14, 3) := by decide +kernel
theorem d_Book_layOut_16 : decode b_Book_layOut 16 = .ok (.aload_n 0, 1) := by decide +kernel
theorem d_Book_layOut_17 : decode b_Book_layOut 17 = .ok (.getfield 37, 3) := by decide +kernel
theorem d_Book_layOut_20 : decode b_Book_layOut 20 = .ok (.ifCond .le 7, 3) := by decide +kernel
theorem d_Book_layOut_23 : decode b_Book_layOut 23 = .ok (.aload_n 0, 1) := by decide +kernel
theorem d_Book_layOut_24 : decode b_Book_layOut 24 = .ok (.invokevirtual 47, 3) := by decide +kernel
theorem d_Book_layOut_27 : decode b_Book_layOut 27 = .ok (.aload_n 1, 1) := by decide +kernel
theorem d_Book_layOut_28 : decode b_Book_layOut 28 = .ok (.getfield 44, 3) := by decide +kernel
theorem d_Book_layOut_31 : decode b_Book_layOut 31 = .ok (.iconst 1, 1) := by decide +kernel
theorem d_Book_layOut_32 : decode b_Book_layOut 32 = .ok (.if_icmp .ne 18, 3) := by decide +kernel
theorem d_Book_layOut_35 : decode b_Book_layOut 35 = .ok (.aload_n 1, 1) := by decide +kernel
theorem d_Book_layOut_36 : decode b_Book_layOut 36 = .ok (.getfield 50, 3) := by decide +kernel
theorem d_Book_layOut_39 : decode b_Book_layOut 39 = .ok (.ifCond .le 11, 3) := by decide +kernel
theorem d_Book_layOut_42 : decode b_Book_layOut 42 = .ok (.aload_n 0, 1) := by decide +kernel
theorem d_Book_layOut_43 : decode b_Book_layOut 43 = .ok (.aload_n 1, 1) := by decide +kernel
theorem d_Book_layOut_44 : decode b_Book_layOut 44 = .ok (.getfield 50, 3) := by decide +kernel
theorem d_Book_layOut_47 : decode b_Book_layOut 47 = .ok (.invokevirtual 53, 3) := by decide +kernel
theorem d_Book_layOut_50 : decode b_Book_layOut 50 = .ok (.iconst 0, 1) := by decide +kernel
theorem d_Book_layOut_51 : decode b_Book_layOut 51 = .ok (.istore_n 2, 1) := by decide +kernel
theorem d_Book_layOut_52 : decode b_Book_layOut 52 = .ok (.iload_n 2, 1) := by decide +kernel
theorem d_Book_layOut_53 : decode b_Book_layOut 53 = .ok (.aload_n 1, 1) := by decide +kernel
theorem d_Book_layOut_54 : decode b_Book_layOut 54 = .ok (.getfield 50, 3) := by decide +kernel
theorem d_Book_layOut_57 : decode b_Book_layOut 57 = .ok (.if_icmp .ge 62, 3) := by decide +kernel
theorem d_Book_layOut_60 : decode b_Book_layOut 60 = .ok (.aload_n 0, 1) := by decide +kernel
theorem d_Book_layOut_61 : decode b_Book_layOut 61 = .ok (.getfield 37, 3) := by decide +kernel
theorem d_Book_layOut_64 : decode b_Book_layOut 64 = .ok (.aload_n 0, 1) := by decide +kernel
theorem d_Book_layOut_65 : decode b_Book_layOut 65 = .ok (.getfield 30, 3) := by decide +kernel
theorem d_Book_layOut_68 : decode b_Book_layOut 68 = .ok (.if_icmp .lt 7, 3) := by decide +kernel
theorem d_Book_layOut_71 : decode b_Book_layOut 71 = .ok (.aload_n 0, 1) := by decide +kernel
theorem d_Book_layOut_72 : decode b_Book_layOut 72 = .ok (.invokevirtual 47, 3) := by decide +kernel
theorem d_Book_layOut_75 : decode b_Book_layOut 75 = .ok (.iload_n 2, 1) := by decide +kernel
theorem d_Book_layOut_76 : decode b_Book_layOut 76 = .ok (.ifCond .ne 19, 3) := by decide +kernel
theorem d_Book_layOut_79 : decode b_Book_layOut 79 = .ok (.aload_n 1, 1) := by decide +kernel
theorem d_Book_layOut_80 : decode b_Book_layOut 80 = .ok (.aload_n 0, 1) := by decide +kernel
theorem d_Book_layOut_81 : decode b_Book_layOut 81 = .ok (.getfield 17, 3) := by decide +kernel
theorem d_Book_layOut_84 : decode b_Book_layOut 84 = .ok (.putfield 56, 3) := by decide +kernel
theorem d_Book_layOut_87 : decode b_Book_layOut 87 = .ok (.aload_n 1, 1) := by decide +kernel
theorem d_Book_layOut_88 : decode b_Book_layOut 88 = .ok (.aload_n 0, 1) := by decide +kernel
theorem d_Book_layOut_89 : decode b_Book_layOut 89 = .ok (.getfield 37, 3) := by decide +kernel
theorem d_Book_layOut_92 : decode b_Book_layOut 92 = .ok (.putfield 57, 3) := by decide +kernel
theorem d_Book_layOut_95 : decode b_Book_layOut 95 = .ok (.aload_n 0, 1) := by decide +kernel
theorem d_Book_layOut_96 : decode b_Book_layOut 96 = .ok (.dup, 1) := by decide +kernel
theorem d_Book_layOut_97 : decode b_Book_layOut 97 = .ok (.getfield 37, 3) := by decide +kernel
theorem d_Book_layOut_100 : decode b_Book_layOut 100 = .ok (.iconst 1, 1) := by decide +kernel
theorem d_Book_layOut_101 : decode b_Book_layOut 101 = .ok (.iadd, 1) := by decide +kernel
theorem d_Book_layOut_102 : decode b_Book_layOut 102 = .ok (.putfield 37, 3) := by decide +kernel
theorem d_Book_layOut_105 : decode b_Book_layOut 105 = .ok (.aload_n 0, 1) := by decide +kernel
theorem d_Book_layOut_106 : decode b_Book_layOut 106 = .ok (.aload_n 0, 1) := by decide +kernel
theorem d_Book_layOut_107 : decode b_Book_layOut 107 = .ok (.getfield 17, 3) := by decide +kernel
theorem d_Book_layOut_110 : decode b_Book_layOut 110 = .ok (.putfield 21, 3) := by decide +kernel
theorem d_Book_layOut_113 : decode b_Book_layOut 113 = .ok (.iinc 2 1, 3) := by decide +kernel
theorem d_Book_layOut_116 : decode b_Book_layOut 116 = .ok (.goto (-64), 3) := by decide +kernel
theorem d_Book_layOut_119 : decode b_Book_layOut 119 = .ok (.return_, 1) := by decide +kernel
theorem d_Book_makeWayForHeading_0 : decode b_Book_makeWayForHeading 0 = .ok (.aload_n 0, 1) := by decide +kernel
theorem d_Book_makeWayForHeading_1 : decode b_Book_makeWayForHeading 1 = .ok (.getfield 37, 3) := by decide +kernel
theorem d_Book_makeWayForHeading_4 : decode b_Book_makeWayForHeading 4 = .ok (.ifCond .ne 4, 3) := by decide +kernel
theorem d_Book_makeWayForHeading_7 : decode b_Book_makeWayForHeading 7 = .ok (.return_, 1) := by decide +kernel
theorem d_Book_makeWayForHeading_8 : decode b_Book_makeWayForHeading 8 = .ok (.aload_n 0, 1) := by decide +kernel
theorem d_Book_makeWayForHeading_9 : decode b_Book_makeWayForHeading 9 = .ok (.getfield 30, 3) := by decide +kernel
theorem d_Book_makeWayForHeading_12 : decode b_Book_makeWayForHeading 12 = .ok (.aload_n 0, 1) := by decide +kernel
theorem d_Book_makeWayForHeading_13 : decode b_Book_makeWayForHeading 13 = .ok (.getfield 37, 3) := by decide +kernel
theorem d_Book_makeWayForHeading_16 : decode b_Book_makeWayForHeading 16 = .ok (.isub, 1) := by decide +kernel
theorem d_Book_makeWayForHeading_17 : decode b_Book_makeWayForHeading 17 = .ok (.iconst 1, 1) := by decide +kernel
theorem d_Book_makeWayForHeading_18 : decode b_Book_makeWayForHeading 18 = .ok (.isub, 1) := by decide +kernel
theorem d_Book_makeWayForHeading_19 : decode b_Book_makeWayForHeading 19 = .ok (.istore_n 2, 1) := by decide +kernel
theorem d_Book_makeWayForHeading_20 : decode b_Book_makeWayForHeading 20 = .ok (.iload_n 2, 1) := by decide +kernel
theorem d_Book_makeWayForHeading_21 : decode b_Book_makeWayForHeading 21 = .ok (.iload_n 1, 1) := by decide +kernel
theorem d_Book_makeWayForHeading_22 : decode b_Book_makeWayForHeading 22 = .ok (.iconst 1, 1) := by decide +kernel
theorem d_Book_makeWayForHeading_23 : decode b_Book_makeWayForHeading 23 = .ok (.iadd, 1) := by decide +kernel
theorem d_Book_makeWayForHeading_24 : decode b_Book_makeWayForHeading 24 = .ok (.if_icmp .ge 10, 3) := by decide +kernel
theorem d_Book_makeWayForHeading_27 : decode b_Book_makeWayForHeading 27 = .ok (.aload_n 0, 1) := by decide +kernel
theorem d_Book_makeWayForHeading_28 : decode b_Book_makeWayForHeading 28 = .ok (.invokevirtual 47, 3) := by decide +kernel
theorem d_Book_makeWayForHeading_31 : decode b_Book_makeWayForHeading 31 = .ok (.goto 13, 3) := by decide +kernel
theorem d_Book_makeWayForHeading_34 : decode b_Book_makeWayForHeading 34 = .ok (.aload_n 0, 1) := by decide +kernel
theorem d_Book_makeWayForHeading_35 : decode b_Book_makeWayForHeading 35 = .ok (.dup, 1) := by decide +kernel
theorem d_Book_makeWayForHeading_36 : decode b_Book_makeWayForHeading 36 = .ok (.getfield 37, 3) := by decide +kernel
theorem d_Book_makeWayForHeading_39 : decode b_Book_makeWayForHeading 39 = .ok (.iconst 1, 1) := by decide +kernel
theorem d_Book_makeWayForHeading_40 : decode b_Book_makeWayForHeading 40 = .ok (.iadd, 1) := by decide +kernel
theorem d_Book_makeWayForHeading_41 : decode b_Book_makeWayForHeading 41 = .ok (.putfield 37, 3) := by decide +kernel
theorem d_Book_makeWayForHeading_44 : decode b_Book_makeWayForHeading 44 = .ok (.return_, 1) := by decide +kernel
theorem d_Book_turnPage_0 : decode b_Book_turnPage 0 = .ok (.aload_n 0, 1) := by decide +kernel
theorem d_Book_turnPage_1 : decode b_Book_turnPage 1 = .ok (.dup, 1) := by decide +kernel
theorem d_Book_turnPage_2 : decode b_Book_turnPage 2 = .ok (.getfield 17, 3) := by decide +kernel
theorem d_Book_turnPage_5 : decode b_Book_turnPage 5 = .ok (.iconst 1, 1) := by decide +kernel
theorem d_Book_turnPage_6 : decode b_Book_turnPage 6 = .ok (.iadd, 1) := by decide +kernel
theorem d_Book_turnPage_7 : decode b_Book_turnPage 7 = .ok (.putfield 17, 3) := by decide +kernel
theorem d_Book_turnPage_10 : decode b_Book_turnPage 10 = .ok (.aload_n 0, 1) := by decide +kernel
theorem d_Book_turnPage_11 : decode b_Book_turnPage 11 = .ok (.iconst 0, 1) := by decide +kernel
theorem d_Book_turnPage_12 : decode b_Book_turnPage 12 = .ok (.putfield 37, 3) := by decide +kernel
theorem d_Book_turnPage_15 : decode b_Book_turnPage 15 = .ok (.return_, 1) := by decide +kernel
theorem d_Book_cellOfText_0 : decode b_Book_cellOfText 0 = .ok (.iconst 0, 1) := by decide +kernel
theorem d_Book_cellOfText_1 : decode b_Book_cellOfText 1 = .ok (.istore 4, 2) := by decide +kernel
theorem d_Book_cellOfText_3 : decode b_Book_cellOfText 3 = .ok (.iload 4, 2) := by decide +kernel
theorem d_Book_cellOfText_5 : decode b_Book_cellOfText 5 = .ok (.aload_n 0, 1) := by decide +kernel
theorem d_Book_cellOfText_6 : decode b_Book_cellOfText 6 = .ok (.getfield 34, 3) := by decide +kernel
theorem d_Book_cellOfText_9 : decode b_Book_cellOfText 9 = .ok (.if_icmp .ge 68, 3) := by decide +kernel
theorem d_Book_cellOfText_12 : decode b_Book_cellOfText 12 = .ok (.aload_n 0, 1) := by decide +kernel
theorem d_Book_cellOfText_13 : decode b_Book_cellOfText 13 = .ok (.getfield 11, 3) := by decide +kernel
theorem d_Book_cellOfText_16 : decode b_Book_cellOfText 16 = .ok (.iload 4, 2) := by decide +kernel
theorem d_Book_cellOfText_18 : decode b_Book_cellOfText 18 = .ok (.aaload, 1) := by decide +kernel
theorem d_Book_cellOfText_19 : decode b_Book_cellOfText 19 = .ok (.astore 5, 2) := by decide +kernel
theorem d_Book_cellOfText_21 : decode b_Book_cellOfText 21 = .ok (.iload_n 1, 1) := by decide +kernel
theorem d_Book_cellOfText_22 : decode b_Book_cellOfText 22 = .ok (.aload 5, 2) := by decide +kernel
theorem d_Book_cellOfText_24 : decode b_Book_cellOfText 24 = .ok (.getfield 56, 3) := by decide +kernel
theorem d_Book_cellOfText_27 : decode b_Book_cellOfText 27 = .ok (.isub, 1) := by decide +kernel
theorem d_Book_cellOfText_28 : decode b_Book_cellOfText 28 = .ok (.aload_n 0, 1) := by decide +kernel
theorem d_Book_cellOfText_29 : decode b_Book_cellOfText 29 = .ok (.getfield 30, 3) := by decide +kernel
theorem d_Book_cellOfText_32 : decode b_Book_cellOfText 32 = .ok (.imul, 1) := by decide +kernel
theorem d_Book_cellOfText_33 : decode b_Book_cellOfText 33 = .ok (.iload_n 2, 1) := by decide +kernel
theorem d_Book_cellOfText_34 : decode b_Book_cellOfText 34 = .ok (.iadd, 1) := by decide +kernel
theorem d_Book_cellOfText_35 : decode b_Book_cellOfText 35 = .ok (.aload 5, 2) := by decide +kernel
theorem d_Book_cellOfText_37 : decode b_Book_cellOfText 37 = .ok (.getfield 57, 3) := by decide +kernel
theorem d_Book_cellOfText_40 : decode b_Book_cellOfText 40 = .ok (.isub, 1) := by decide +kernel
theorem d_Book_cellOfText_41 : decode b_Book_cellOfText 41 = .ok (.istore 6, 2) := by decide +kernel
theorem d_Book_cellOfText_43 : decode b_Book_cellOfText 43 = .ok (.iload 6, 2) := by decide +kernel
theorem d_Book_cellOfText_45 : decode b_Book_cellOfText 45 = .ok (.ifCond .lt 26, 3) := by decide +kernel
theorem d_Book_cellOfText_48 : decode b_Book_cellOfText 48 = .ok (.iload 6, 2) := by decide +kernel
theorem d_Book_cellOfText_50 : decode b_Book_cellOfText 50 = .ok (.aload 5, 2) := by decide +kernel
theorem d_Book_cellOfText_52 : decode b_Book_cellOfText 52 = .ok (.getfield 50, 3) := by decide +kernel
theorem d_Book_cellOfText_55 : decode b_Book_cellOfText 55 = .ok (.if_icmp .ge 16, 3) := by decide +kernel
theorem d_Book_cellOfText_58 : decode b_Book_cellOfText 58 = .ok (.aload 5, 2) := by decide +kernel
theorem d_Book_cellOfText_60 : decode b_Book_cellOfText 60 = .ok (.iload 6, 2) := by decide +kernel
theorem d_Book_cellOfText_62 : decode b_Book_cellOfText 62 = .ok (.iload_n 3, 1) := by decide +kernel
theorem d_Book_cellOfText_63 : decode b_Book_cellOfText 63 = .ok (.aload_n 0, 1) := by decide +kernel
theorem d_Book_cellOfText_64 : decode b_Book_cellOfText 64 = .ok (.getfield 24, 3) := by decide +kernel
theorem d_Book_cellOfText_67 : decode b_Book_cellOfText 67 = .ok (.invokevirtual 60, 3) := by decide +kernel
theorem d_Book_cellOfText_70 : decode b_Book_cellOfText 70 = .ok (.ireturn, 1) := by decide +kernel
theorem d_Book_cellOfText_71 : decode b_Book_cellOfText 71 = .ok (.iinc 4 1, 3) := by decide +kernel
theorem d_Book_cellOfText_74 : decode b_Book_cellOfText 74 = .ok (.goto (-71), 3) := by decide +kernel
theorem d_Book_cellOfText_77 : decode b_Book_cellOfText 77 = .ok (.iconst 0, 1) := by decide +kernel
theorem d_Book_cellOfText_78 : decode b_Book_cellOfText 78 = .ok (.ireturn, 1) := by decide +kernel
theorem d_Book_cellOfNumber_0 : decode b_Book_cellOfNumber 0 = .ok (.iload_n 1, 1) := by decide +kernel
theorem d_Book_cellOfNumber_1 : decode b_Book_cellOfNumber 1 = .ok (.istore_n 3, 1) := by decide +kernel
theorem d_Book_cellOfNumber_2 : decode b_Book_cellOfNumber 2 = .ok (.iload_n 1, 1) := by decide +kernel
theorem d_Book_cellOfNumber_3 : decode b_Book_cellOfNumber 3 = .ok (.istore 4, 2) := by decide +kernel
theorem d_Book_cellOfNumber_5 : decode b_Book_cellOfNumber 5 = .ok (.aload_n 0, 1) := by decide +kernel
theorem d_Book_cellOfNumber_6 : decode b_Book_cellOfNumber 6 = .ok (.getfield 24, 3) := by decide +kernel
theorem d_Book_cellOfNumber_9 : decode b_Book_cellOfNumber 9 = .ok (.iconst 1, 1) := by decide +kernel
theorem d_Book_cellOfNumber_10 : decode b_Book_cellOfNumber 10 = .ok (.isub, 1) := by decide +kernel
theorem d_Book_cellOfNumber_11 : decode b_Book_cellOfNumber 11 = .ok (.istore 5, 2) := by decide +kernel
theorem d_Book_cellOfNumber_13 : decode b_Book_cellOfNumber 13 = .ok (.iload 5, 2) := by decide +kernel
theorem d_Book_cellOfNumber_15 : decode b_Book_cellOfNumber 15 = .ok (.iload_n 2, 1) := by decide +kernel
theorem d_Book_cellOfNumber_16 : decode b_Book_cellOfNumber 16 = .ok (.if_icmp .le 17, 3) := by decide +kernel
theorem d_Book_cellOfNumber_19 : decode b_Book_cellOfNumber 19 = .ok (.iload_n 3, 1) := by decide +kernel
theorem d_Book_cellOfNumber_20 : decode b_Book_cellOfNumber 20 = .ok (.istore 4, 2) := by decide +kernel
theorem d_Book_cellOfNumber_22 : decode b_Book_cellOfNumber 22 = .ok (.iload_n 3, 1) := by decide +kernel
theorem d_Book_cellOfNumber_23 : decode b_Book_cellOfNumber 23 = .ok (.bipush 10, 2) := by decide +kernel
theorem d_Book_cellOfNumber_25 : decode b_Book_cellOfNumber 25 = .ok (.idiv, 1) := by decide +kernel
theorem d_Book_cellOfNumber_26 : decode b_Book_cellOfNumber 26 = .ok (.istore_n 3, 1) := by decide +kernel
theorem d_Book_cellOfNumber_27 : decode b_Book_cellOfNumber 27 = .ok (.iinc 5 (-1), 3) := by decide +kernel
theorem d_Book_cellOfNumber_30 : decode b_Book_cellOfNumber 30 = .ok (.goto (-17), 3) := by decide +kernel
theorem d_Book_cellOfNumber_33 : decode b_Book_cellOfNumber 33 = .ok (.iload_n 3, 1) := by decide +kernel
theorem d_Book_cellOfNumber_34 : decode b_Book_cellOfNumber 34 = .ok (.ifCond .le 15, 3) := by decide +kernel
theorem d_Book_cellOfNumber_37 : decode b_Book_cellOfNumber 37 = .ok (.bipush 48, 2) := by decide +kernel
theorem d_Book_cellOfNumber_39 : decode b_Book_cellOfNumber 39 = .ok (.iload_n 3, 1) := by decide +kernel
theorem d_Book_cellOfNumber_40 : decode b_Book_cellOfNumber 40 = .ok (.bipush 10, 2) := by decide +kernel
theorem d_Book_cellOfNumber_42 : decode b_Book_cellOfNumber 42 = .ok (.irem, 1) := by decide +kernel
theorem d_Book_cellOfNumber_43 : decode b_Book_cellOfNumber 43 = .ok (.iadd, 1) := by decide +kernel
theorem d_Book_cellOfNumber_44 : decode b_Book_cellOfNumber 44 = .ok (.i2c, 1) := by decide +kernel
theorem d_Book_cellOfNumber_45 : decode b_Book_cellOfNumber 45 = .ok (.invokestatic 64, 3) := by decide +kernel
theorem d_Book_cellOfNumber_48 : decode b_Book_cellOfNumber 48 = .ok (.ireturn, 1) := by decide +kernel
theorem d_Book_cellOfNumber_49 : decode b_Book_cellOfNumber 49 = .ok (.iload 4, 2) := by decide +kernel
theorem d_Book_cellOfNumber_51 : decode b_Book_cellOfNumber 51 = .ok (.ifCond .le 8, 3) := by decide +kernel
theorem d_Book_cellOfNumber_54 : decode b_Book_cellOfNumber 54 = .ok (.bipush 60, 2) := by decide +kernel
theorem d_Book_cellOfNumber_56 : decode b_Book_cellOfNumber 56 = .ok (.goto 4, 3) := by decide +kernel
theorem d_Book_cellOfNumber_59 : decode b_Book_cellOfNumber 59 = .ok (.iconst 0, 1) := by decide +kernel
theorem d_Book_cellOfNumber_60 : decode b_Book_cellOfNumber 60 = .ok (.ireturn, 1) := by decide +kernel
theorem d_Law_cell_0_0 : decode b_Law_cell_0 0 = .ok (.iload_n 1, 1) := by decide +kernel
theorem d_Law_cell_0_1 : decode b_Law_cell_0 1 = .ok (.aload_n 0, 1) := by decide +kernel
theorem d_Law_cell_0_2 : decode b_Law_cell_0 2 = .ok (.arraylength, 1) := by decide +kernel
theorem d_Law_cell_0_3 : decode b_Law_cell_0 3 = .ok (.if_icmp .ge 9, 3) := by decide +kernel
theorem d_Law_cell_0_6 : decode b_Law_cell_0 6 = .ok (.aload_n 0, 1) := by decide +kernel
theorem d_Law_cell_0_7 : decode b_Law_cell_0 7 = .ok (.iload_n 1, 1) := by decide +kernel
theorem d_Law_cell_0_8 : decode b_Law_cell_0 8 = .ok (.iaload, 1) := by decide +kernel
theorem d_Law_cell_0_9 : decode b_Law_cell_0 9 = .ok (.goto 4, 3) := by decide +kernel
theorem d_Law_cell_0_12 : decode b_Law_cell_0 12 = .ok (.iconst 0, 1) := by decide +kernel
theorem d_Law_cell_0_13 : decode b_Law_cell_0 13 = .ok (.ireturn, 1) := by decide +kernel
theorem d_Law_type_0 : decode b_Law_type 0 = .ok (.aload_n 2, 1) := by decide +kernel
theorem d_Law_type_1 : decode b_Law_type 1 = .ok (.iconst 0, 1) := by decide +kernel
theorem d_Law_type_2 : decode b_Law_type 2 = .ok (.aload_n 0, 1) := by decide +kernel
theorem d_Law_type_3 : decode b_Law_type 3 = .ok (.iload_n 1, 1) := by decide +kernel
theorem d_Law_type_4 : decode b_Law_type 4 = .ok (.invokevirtual 7, 3) := by decide +kernel
theorem d_Law_type_7 : decode b_Law_type 7 = .ok (.i2l, 1) := by decide +kernel
theorem d_Law_type_8 : decode b_Law_type 8 = .ok (.lastore, 1) := by decide +kernel
theorem d_Law_type_9 : decode b_Law_type 9 = .ok (.goto 9, 3) := by decide +kernel
theorem d_Law_type_12 : decode b_Law_type 12 = .ok (.astore_n 3, 1) := by decide +kernel
theorem d_Law_type_13 : decode b_Law_type 13 = .ok (.iconst 1, 1) := by decide +kernel
theorem d_Law_type_14 : decode b_Law_type 14 = .ok (.ireturn, 1) := by decide +kernel
theorem d_Law_type_15 : decode b_Law_type 15 = .ok (.astore_n 3, 1) := by decide +kernel
theorem d_Law_type_16 : decode b_Law_type 16 = .ok (.iconst 2, 1) := by decide +kernel
theorem d_Law_type_17 : decode b_Law_type 17 = .ok (.ireturn, 1) := by decide +kernel
theorem d_Law_type_18 : decode b_Law_type 18 = .ok (.iconst 0, 1) := by decide +kernel
theorem d_Law_type_19 : decode b_Law_type 19 = .ok (.ireturn, 1) := by decide +kernel
theorem d_Law_rules_0 : decode b_Law_rules 0 = .ok (.aload_n 2, 1) := by decide +kernel
theorem d_Law_rules_1 : decode b_Law_rules 1 = .ok (.iconst 0, 1) := by decide +kernel
theorem d_Law_rules_2 : decode b_Law_rules 2 = .ok (.aload_n 0, 1) := by decide +kernel
theorem d_Law_rules_3 : decode b_Law_rules 3 = .ok (.iload_n 1, 1) := by decide +kernel
theorem d_Law_rules_4 : decode b_Law_rules 4 = .ok (.invokevirtual 17, 3) := by decide +kernel
theorem d_Law_rules_7 : decode b_Law_rules 7 = .ok (.i2l, 1) := by decide +kernel
theorem d_Law_rules_8 : decode b_Law_rules 8 = .ok (.lastore, 1) := by decide +kernel
theorem d_Law_rules_9 : decode b_Law_rules 9 = .ok (.goto 6, 3) := by decide +kernel
theorem d_Law_rules_12 : decode b_Law_rules 12 = .ok (.astore_n 3, 1) := by decide +kernel
theorem d_Law_rules_13 : decode b_Law_rules 13 = .ok (.iconst 1, 1) := by decide +kernel
theorem d_Law_rules_14 : decode b_Law_rules 14 = .ok (.ireturn, 1) := by decide +kernel
theorem d_Law_rules_15 : decode b_Law_rules 15 = .ok (.iconst 0, 1) := by decide +kernel
theorem d_Law_rules_16 : decode b_Law_rules 16 = .ok (.ireturn, 1) := by decide +kernel
theorem d_Law_block_0 : decode b_Law_block 0 = .ok (.aload_n 2, 1) := by decide +kernel
theorem d_Law_block_1 : decode b_Law_block 1 = .ok (.iconst 0, 1) := by decide +kernel
theorem d_Law_block_2 : decode b_Law_block 2 = .ok (.aload_n 0, 1) := by decide +kernel
theorem d_Law_block_3 : decode b_Law_block 3 = .ok (.iload_n 1, 1) := by decide +kernel
theorem d_Law_block_4 : decode b_Law_block 4 = .ok (.invokevirtual 21, 3) := by decide +kernel
theorem d_Law_block_7 : decode b_Law_block 7 = .ok (.i2l, 1) := by decide +kernel
theorem d_Law_block_8 : decode b_Law_block 8 = .ok (.lastore, 1) := by decide +kernel
theorem d_Law_block_9 : decode b_Law_block 9 = .ok (.goto 9, 3) := by decide +kernel
theorem d_Law_block_12 : decode b_Law_block 12 = .ok (.astore_n 3, 1) := by decide +kernel
theorem d_Law_block_13 : decode b_Law_block 13 = .ok (.iconst 1, 1) := by decide +kernel
theorem d_Law_block_14 : decode b_Law_block 14 = .ok (.ireturn, 1) := by decide +kernel
theorem d_Law_block_15 : decode b_Law_block 15 = .ok (.astore_n 3, 1) := by decide +kernel
theorem d_Law_block_16 : decode b_Law_block 16 = .ok (.iconst 2, 1) := by decide +kernel
theorem d_Law_block_17 : decode b_Law_block 17 = .ok (.ireturn, 1) := by decide +kernel
theorem d_Law_block_18 : decode b_Law_block 18 = .ok (.iconst 0, 1) := by decide +kernel
theorem d_Law_block_19 : decode b_Law_block 19 = .ok (.ireturn, 1) := by decide +kernel
theorem d_Law_size_0 : decode b_Law_size 0 = .ok (.aload_n 2, 1) := by decide +kernel
theorem d_Law_size_1 : decode b_Law_size 1 = .ok (.iconst 0, 1) := by decide +kernel
theorem d_Law_size_2 : decode b_Law_size 2 = .ok (.aload_n 0, 1) := by decide +kernel
theorem d_Law_size_3 : decode b_Law_size 3 = .ok (.iload_n 1, 1) := by decide +kernel
theorem d_Law_size_4 : decode b_Law_size 4 = .ok (.invokevirtual 25, 3) := by decide +kernel
theorem d_Law_size_7 : decode b_Law_size 7 = .ok (.i2l, 1) := by decide +kernel
theorem d_Law_size_8 : decode b_Law_size 8 = .ok (.lastore, 1) := by decide +kernel
theorem d_Law_size_9 : decode b_Law_size 9 = .ok (.goto 6, 3) := by decide +kernel
theorem d_Law_size_12 : decode b_Law_size 12 = .ok (.astore_n 3, 1) := by decide +kernel
theorem d_Law_size_13 : decode b_Law_size 13 = .ok (.iconst 1, 1) := by decide +kernel
theorem d_Law_size_14 : decode b_Law_size 14 = .ok (.ireturn, 1) := by decide +kernel
theorem d_Law_size_15 : decode b_Law_size 15 = .ok (.iconst 0, 1) := by decide +kernel
theorem d_Law_size_16 : decode b_Law_size 16 = .ok (.ireturn, 1) := by decide +kernel
theorem d_Law_cell_1_0 : decode b_Law_cell_1 0 = .ok (.aload_n 3, 1) := by decide +kernel
theorem d_Law_cell_1_1 : decode b_Law_cell_1 1 = .ok (.iconst 0, 1) := by decide +kernel
theorem d_Law_cell_1_2 : decode b_Law_cell_1 2 = .ok (.aload_n 0, 1) := by decide +kernel
theorem d_Law_cell_1_3 : decode b_Law_cell_1 3 = .ok (.iload_n 1, 1) := by decide +kernel
theorem d_Law_cell_1_4 : decode b_Law_cell_1 4 = .ok (.iload_n 2, 1) := by decide +kernel
theorem d_Law_cell_1_5 : decode b_Law_cell_1 5 = .ok (.invokevirtual 30, 3) := by decide +kernel
theorem d_Law_cell_1_8 : decode b_Law_cell_1 8 = .ok (.i2l, 1) := by decide +kernel
theorem d_Law_cell_1_9 : decode b_Law_cell_1 9 = .ok (.lastore, 1) := by decide +kernel
theorem d_Law_cell_1_10 : decode b_Law_cell_1 10 = .ok (.goto 7, 3) := by decide +kernel
theorem d_Law_cell_1_13 : decode b_Law_cell_1 13 = .ok (.astore 4, 2) := by decide +kernel
theorem d_Law_cell_1_15 : decode b_Law_cell_1 15 = .ok (.iconst 1, 1) := by decide +kernel
theorem d_Law_cell_1_16 : decode b_Law_cell_1 16 = .ok (.ireturn, 1) := by decide +kernel
theorem d_Law_cell_1_17 : decode b_Law_cell_1 17 = .ok (.iconst 0, 1) := by decide +kernel
theorem d_Law_cell_1_18 : decode b_Law_cell_1 18 = .ok (.ireturn, 1) := by decide +kernel
theorem d_Law_back_0 : decode b_Law_back 0 = .ok (.aload_n 2, 1) := by decide +kernel
theorem d_Law_back_1 : decode b_Law_back 1 = .ok (.iconst 0, 1) := by decide +kernel
theorem d_Law_back_2 : decode b_Law_back 2 = .ok (.aload_n 0, 1) := by decide +kernel
theorem d_Law_back_3 : decode b_Law_back 3 = .ok (.iload_n 1, 1) := by decide +kernel
theorem d_Law_back_4 : decode b_Law_back 4 = .ok (.invokevirtual 34, 3) := by decide +kernel
theorem d_Law_back_7 : decode b_Law_back 7 = .ok (.i2l, 1) := by decide +kernel
theorem d_Law_back_8 : decode b_Law_back 8 = .ok (.lastore, 1) := by decide +kernel
theorem d_Law_back_9 : decode b_Law_back 9 = .ok (.goto 6, 3) := by decide +kernel
theorem d_Law_back_12 : decode b_Law_back 12 = .ok (.astore_n 3, 1) := by decide +kernel
theorem d_Law_back_13 : decode b_Law_back 13 = .ok (.iconst 1, 1) := by decide +kernel
theorem d_Law_back_14 : decode b_Law_back 14 = .ok (.ireturn, 1) := by decide +kernel
theorem d_Law_back_15 : decode b_Law_back 15 = .ok (.iconst 0, 1) := by decide +kernel
theorem d_Law_back_16 : decode b_Law_back 16 = .ok (.ireturn, 1) := by decide +kernel
theorem d_Law_at_0 : decode b_Law_at 0 = .ok (.aload 4, 2) := by decide +kernel
theorem d_Law_at_2 : decode b_Law_at 2 = .ok (.iconst 0, 1) := by decide +kernel
theorem d_Law_at_3 : decode b_Law_at 3 = .ok (.aload_n 0, 1) := by decide +kernel
theorem d_Law_at_4 : decode b_Law_at 4 = .ok (.iload_n 1, 1) := by decide +kernel
theorem d_Law_at_5 : decode b_Law_at 5 = .ok (.iload_n 2, 1) := by decide +kernel
theorem d_Law_at_6 : decode b_Law_at 6 = .ok (.iload_n 3, 1) := by decide +kernel
theorem d_Law_at_7 : decode b_Law_at 7 = .ok (.invokevirtual 37, 3) := by decide +kernel
theorem d_Law_at_10 : decode b_Law_at 10 = .ok (.i2l, 1) := by decide +kernel
theorem d_Law_at_11 : decode b_Law_at 11 = .ok (.lastore, 1) := by decide +kernel
theorem d_Law_at_12 : decode b_Law_at 12 = .ok (.goto 7, 3) := by decide +kernel
theorem d_Law_at_15 : decode b_Law_at 15 = .ok (.astore 5, 2) := by decide +kernel
theorem d_Law_at_17 : decode b_Law_at 17 = .ok (.iconst 1, 1) := by decide +kernel
theorem d_Law_at_18 : decode b_Law_at 18 = .ok (.ireturn, 1) := by decide +kernel
theorem d_Law_at_19 : decode b_Law_at 19 = .ok (.iconst 0, 1) := by decide +kernel
theorem d_Law_at_20 : decode b_Law_at 20 = .ok (.ireturn, 1) := by decide +kernel
theorem d_Law_where_0 : decode b_Law_where 0 = .ok (.aload_n 2, 1) := by decide +kernel
theorem d_Law_where_1 : decode b_Law_where 1 = .ok (.iconst 0, 1) := by decide +kernel
theorem d_Law_where_2 : decode b_Law_where 2 = .ok (.aload_n 0, 1) := by decide +kernel
theorem d_Law_where_3 : decode b_Law_where 3 = .ok (.iload_n 1, 1) := by decide +kernel
theorem d_Law_where_4 : decode b_Law_where 4 = .ok (.invokevirtual 41, 3) := by decide +kernel
theorem d_Law_where_7 : decode b_Law_where 7 = .ok (.i2l, 1) := by decide +kernel
theorem d_Law_where_8 : decode b_Law_where 8 = .ok (.lastore, 1) := by decide +kernel
theorem d_Law_where_9 : decode b_Law_where 9 = .ok (.goto 6, 3) := by decide +kernel
theorem d_Law_where_12 : decode b_Law_where 12 = .ok (.astore_n 3, 1) := by decide +kernel
theorem d_Law_where_13 : decode b_Law_where 13 = .ok (.iconst 1, 1) := by decide +kernel
theorem d_Law_where_14 : decode b_Law_where 14 = .ok (.ireturn, 1) := by decide +kernel
theorem d_Law_where_15 : decode b_Law_where 15 = .ok (.iconst 0, 1) := by decide +kernel
theorem d_Law_where_16 : decode b_Law_where 16 = .ok (.ireturn, 1) := by decide +kernel
theorem d_Law_law_0 : decode b_Law_law 0 = .ok (.new 8, 3) := by decide +kernel
theorem d_Law_law_3 : decode b_Law_law 3 = .ok (.dup, 1) := by decide +kernel
theorem d_Law_law_4 : decode b_Law_law 4 = .ok (.aload_n 0, 1) := by decide +kernel
theorem d_Law_law_5 : decode b_Law_law 5 = .ok (.iconst 0, 1) := by decide +kernel
theorem d_Law_law_6 : decode b_Law_law 6 = .ok (.invokestatic 44, 3) := by decide +kernel
theorem d_Law_law_9 : decode b_Law_law 9 = .ok (.aload_n 0, 1) := by decide +kernel
theorem d_Law_law_10 : decode b_Law_law 10 = .ok (.iconst 1, 1) := by decide +kernel
theorem d_Law_law_11 : decode b_Law_law 11 = .ok (.invokestatic 44, 3) := by decide +kernel
theorem d_Law_law_14 : decode b_Law_law 14 = .ok (.invokespecial 49, 3) := by decide +kernel
theorem d_Law_law_17 : decode b_Law_law 17 = .ok (.astore_n 1, 1) := by decide +kernel
theorem d_Law_law_18 : decode b_Law_law 18 = .ok (.new 52, 3) := by decide +kernel
theorem d_Law_law_21 : decode b_Law_law 21 = .ok (.dup, 1) := by decide +kernel
theorem d_Law_law_22 : decode b_Law_law 22 = .ok (.aload_n 0, 1) := by decide +kernel
theorem d_Law_law_23 : decode b_Law_law 23 = .ok (.iconst 0, 1) := by decide +kernel
theorem d_Law_law_24 : decode b_Law_law 24 = .ok (.invokestatic 44, 3) := by decide +kernel
theorem d_Law_law_27 : decode b_Law_law 27 = .ok (.aload_n 0, 1) := by decide +kernel
theorem d_Law_law_28 : decode b_Law_law 28 = .ok (.iconst 1, 1) := by decide +kernel
theorem d_Law_law_29 : decode b_Law_law 29 = .ok (.invokestatic 44, 3) := by decide +kernel
theorem d_Law_law_32 : decode b_Law_law 32 = .ok (.invokespecial 54, 3) := by decide +kernel
theorem d_Law_law_35 : decode b_Law_law 35 = .ok (.astore_n 2, 1) := by decide +kernel
theorem d_Law_law_36 : decode b_Law_law 36 = .ok (.iconst 1, 1) := by decide +kernel
theorem d_Law_law_37 : decode b_Law_law 37 = .ok (.newarray .long, 2) := by decide +kernel
theorem d_Law_law_39 : decode b_Law_law 39 = .ok (.astore_n 3, 1) := by decide +kernel
theorem d_Law_law_40 : decode b_Law_law 40 = .ok (.iconst 2, 1) := by decide +kernel
theorem d_Law_law_41 : decode b_Law_law 41 = .ok (.istore 4, 2) := by decide +kernel
theorem d_Law_law_43 : decode b_Law_law 43 = .ok (.iload 4, 2) := by decide +kernel
theorem d_Law_law_45 : decode b_Law_law 45 = .ok (.aload_n 0, 1) := by decide +kernel
theorem d_Law_law_46 : decode b_Law_law 46 = .ok (.arraylength, 1) := by decide +kernel
theorem d_Law_law_47 : decode b_Law_law 47 = .ok (.iconst 4, 1) := by decide +kernel
theorem d_Law_law_48 : decode b_Law_law 48 = .ok (.isub, 1) := by decide +kernel
theorem d_Law_law_49 : decode b_Law_law 49 = .ok (.if_icmp .gt 685, 3) := by decide +kernel
theorem d_Law_law_52 : decode b_Law_law 52 = .ok (.aload_n 0, 1) := by decide +kernel
theorem d_Law_law_53 : decode b_Law_law 53 = .ok (.iload 4, 2) := by decide +kernel
theorem d_Law_law_55 : decode b_Law_law 55 = .ok (.iaload, 1) := by decide +kernel
theorem d_Law_law_56 : decode b_Law_law 56 = .ok (.bipush 15, 2) := by decide +kernel
theorem d_Law_law_58 : decode b_Law_law 58 = .ok (.iand, 1) := by decide +kernel
theorem d_Law_law_59 : decode b_Law_law 59 = .ok (.tableswitch 669 0 13 #[69, 127, 138, 210, 223, 279, 335, 403, 459, 484, 497, 577, 633, 658], 69) := by decide +kernel
theorem d_Law_law_128 : decode b_Law_law 128 = .ok (.aload_n 1, 1) := by decide +kernel
theorem d_Law_law_129 : decode b_Law_law 129 = .ok (.aload_n 0, 1) := by decide +kernel
theorem d_Law_law_130 : decode b_Law_law 130 = .ok (.iload 4, 2) := by decide +kernel
theorem d_Law_law_132 : decode b_Law_law 132 = .ok (.iconst 1, 1) := by decide +kernel
theorem d_Law_law_133 : decode b_Law_law 133 = .ok (.iadd, 1) := by decide +kernel
theorem d_Law_law_134 : decode b_Law_law 134 = .ok (.iaload, 1) := by decide +kernel
theorem d_Law_law_135 : decode b_Law_law 135 = .ok (.i2c, 1) := by decide +kernel
theorem d_Law_law_136 : decode b_Law_law 136 = .ok (.aload_n 3, 1) := by decide +kernel
theorem d_Law_law_137 : decode b_Law_law 137 = .ok (.invokestatic 55, 3) := by decide +kernel
theorem d_Law_law_140 : decode b_Law_law 140 = .ok (.istore 5, 2) := by decide +kernel
theorem d_Law_law_142 : decode b_Law_law 142 = .ok (.aload_n 2, 1) := by decide +kernel
theorem d_Law_law_143 : decode b_Law_law 143 = .ok (.aload_n 0, 1) := by decide +kernel
theorem d_Law_law_144 : decode b_Law_law 144 = .ok (.iload 4, 2) := by decide +kernel
theorem d_Law_law_146 : decode b_Law_law 146 = .ok (.iconst 1, 1) := by decide +kernel
theorem d_Law_law_147 : decode b_Law_law 147 = .ok (.iadd, 1) := by decide +kernel
theorem d_Law_law_148 : decode b_Law_law 148 = .ok (.iaload, 1) := by decide +kernel
theorem d_Law_law_149 : decode b_Law_law 149 = .ok (.i2c, 1) := by decide +kernel
theorem d_Law_law_150 : decode b_Law_law 150 = .ok (.invokevirtual 58, 3) := by decide +kernel
theorem d_Law_law_153 : decode b_Law_law 153 = .ok (.istore 6, 2) := by decide +kernel
theorem d_Law_law_155 : decode b_Law_law 155 = .ok (.aload_n 2, 1) := by decide +kernel
theorem d_Law_law_156 : decode b_Law_law 156 = .ok (.invokevirtual 59, 3) := by decide +kernel
theorem d_Law_law_159 : decode b_Law_law 159 = .ok (.iload 5, 2) := by decide +kernel
theorem d_Law_law_161 : decode b_Law_law 161 = .ok (.if_icmp .eq 5, 3) := by decide +kernel
theorem d_Law_law_164 : decode b_Law_law 164 = .ok (.iconst 0, 1) := by decide +kernel
theorem d_Law_law_165 : decode b_Law_law 165 = .ok (.ireturn, 1) := by decide +kernel
theorem d_Law_law_166 : decode b_Law_law 166 = .ok (.iload 5, 2) := by decide +kernel
theorem d_Law_law_168 : decode b_Law_law 168 = .ok (.ifCond .ne 15, 3) := by decide +kernel
theorem d_Law_law_171 : decode b_Law_law 171 = .ok (.aload_n 3, 1) := by decide +kernel
theorem d_Law_law_172 : decode b_Law_law 172 = .ok (.iconst 0, 1) := by decide +kernel
theorem d_Law_law_173 : decode b_Law_law 173 = .ok (.laload, 1) := by decide +kernel
theorem d_Law_law_174 : decode b_Law_law 174 = .ok (.iload 6, 2) := by decide +kernel
theorem d_Law_law_176 : decode b_Law_law 176 = .ok (.i2l, 1) := by decide +kernel
theorem d_Law_law_177 : decode b_Law_law 177 = .ok (.lcmp, 1) := by decide +kernel
theorem d_Law_law_178 : decode b_Law_law 178 = .ok (.ifCond .eq 5, 3) := by decide +kernel
theorem d_Law_law_181 : decode b_Law_law 181 = .ok (.iconst 0, 1) := by decide +kernel
theorem d_Law_law_182 : decode b_Law_law 182 = .ok (.ireturn, 1) := by decide +kernel
theorem d_Law_law_183 : decode b_Law_law 183 = .ok (.goto 545, 3) := by decide +kernel
theorem d_Law_law_186 : decode b_Law_law 186 = .ok (.aload_n 1, 1) := by decide +kernel
theorem d_Law_law_187 : decode b_Law_law 187 = .ok (.invokevirtual 63, 3) := by decide +kernel
theorem d_Law_law_190 : decode b_Law_law 190 = .ok (.aload_n 2, 1) := by decide +kernel
theorem d_Law_law_191 : decode b_Law_law 191 = .ok (.invokevirtual 66, 3) := by decide +kernel
theorem d_Law_law_194 : decode b_Law_law 194 = .ok (.goto 534, 3) := by decide +kernel
theorem d_Law_law_197 : decode b_Law_law 197 = .ok (.aload_n 1, 1) := by decide +kernel
theorem d_Law_law_198 : decode b_Law_law 198 = .ok (.aload_n 0, 1) := by decide +kernel
theorem d_Law_law_199 : decode b_Law_law 199 = .ok (.iload 4, 2) := by decide +kernel
theorem d_Law_law_201 : decode b_Law_law 201 = .ok (.iconst 1, 1) := by decide +kernel
theorem d_Law_law_202 : decode b_Law_law 202 = .ok (.iadd, 1) := by decide +kernel
theorem d_Law_law_203 : decode b_Law_law 203 = .ok (.iaload, 1) := by decide +kernel
theorem d_Law_law_204 : decode b_Law_law 204 = .ok (.ifCond .eq 7, 3) := by decide +kernel
theorem d_Law_law_207 : decode b_Law_law 207 = .ok (.iconst 1, 1) := by decide +kernel
theorem d_Law_law_208 : decode b_Law_law 208 = .ok (.goto 4, 3) := by decide +kernel
theorem d_Law_law_211 : decode b_Law_law 211 = .ok (.iconst 0, 1) := by decide +kernel
theorem d_Law_law_212 : decode b_Law_law 212 = .ok (.aload_n 3, 1) := by decide +kernel
theorem d_Law_law_213 : decode b_Law_law 213 = .ok (.invokestatic 67, 3) := by decide +kernel
theorem d_Law_law_216 : decode b_Law_law 216 = .ok (.istore 5, 2) := by decide +kernel
theorem d_Law_law_218 : decode b_Law_law 218 = .ok (.aload_n 2, 1) := by decide +kernel
theorem d_Law_law_219 : decode b_Law_law 219 = .ok (.aload_n 0, 1) := by decide +kernel
theorem d_Law_law_220 : decode b_Law_law 220 = .ok (.iload 4, 2) := by decide +kernel
theorem d_Law_law_222 : decode b_Law_law 222 = .ok (.iconst 1, 1) := by decide +kernel
theorem d_Law_law_223 : decode b_Law_law 223 = .ok (.iadd, 1) := by decide +kernel
theorem d_Law_law_224 : decode b_Law_law 224 = .ok (.iaload, 1) := by decide +kernel
theorem d_Law_law_225 : decode b_Law_law 225 = .ok (.ifCond .eq 7, 3) := by decide +kernel
theorem d_Law_law_228 : decode b_Law_law 228 = .ok (.iconst 1, 1) := by decide +kernel
theorem d_Law_law_229 : decode b_Law_law 229 = .ok (.goto 4, 3) := by decide +kernel
theorem d_Law_law_232 : decode b_Law_law 232 = .ok (.iconst 0, 1) := by decide +kernel
theorem d_Law_law_233 : decode b_Law_law 233 = .ok (.invokevirtual 70, 3) := by decide +kernel
theorem d_Law_law_236 : decode b_Law_law 236 = .ok (.istore 6, 2) := by decide +kernel
theorem d_Law_law_238 : decode b_Law_law 238 = .ok (.aload_n 2, 1) := by decide +kernel
theorem d_Law_law_239 : decode b_Law_law 239 = .ok (.invokevirtual 59, 3) := by decide +kernel
theorem d_Law_law_242 : decode b_Law_law 242 = .ok (.iload 5, 2) := by decide +kernel
theorem d_Law_law_244 : decode b_Law_law 244 = .ok (.if_icmp .eq 5, 3) := by decide +kernel
theorem d_Law_law_247 : decode b_Law_law 247 = .ok (.iconst 0, 1) := by decide +kernel
theorem d_Law_law_248 : decode b_Law_law 248 = .ok (.ireturn, 1) := by decide +kernel
theorem d_Law_law_249 : decode b_Law_law 249 = .ok (.iload 5, 2) := by decide +kernel
theorem d_Law_law_251 : decode b_Law_law 251 = .ok (.ifCond .ne 15, 3) := by decide +kernel
theorem d_Law_law_254 : decode b_Law_law 254 = .ok (.aload_n 3, 1) := by decide +kernel
theorem d_Law_law_255 : decode b_Law_law 255 = .ok (.iconst 0, 1) := by decide +kernel
theorem d_Law_law_256 : decode b_Law_law 256 = .ok (.laload, 1) := by decide +kernel
theorem d_Law_law_257 : decode b_Law_law 257 = .ok (.iload 6, 2) := by decide +kernel
theorem d_Law_law_259 : decode b_Law_law 259 = .ok (.i2l, 1) := by decide +kernel
theorem d_Law_law_260 : decode b_Law_law 260 = .ok (.lcmp, 1) := by decide +kernel
theorem d_Law_law_261 : decode b_Law_law 261 = .ok (.ifCond .eq 5, 3) := by decide +kernel
theorem d_Law_law_264 : decode b_Law_law 264 = .ok (.iconst 0, 1) := by decide +kernel
theorem d_Law_law_265 : decode b_Law_law 265 = .ok (.ireturn, 1) := by decide +kernel
theorem d_Law_law_266 : decode b_Law_law 266 = .ok (.goto 462, 3) := by decide +kernel
theorem d_Law_law_269 : decode b_Law_law 269 = .ok (.aload_n 1, 1) := by decide +kernel
theorem d_Law_law_270 : decode b_Law_law 270 = .ok (.invokevirtual 71, 3) := by decide +kernel
theorem d_Law_law_273 : decode b_Law_law 273 = .ok (.aload_n 2, 1) := by decide +kernel
theorem d_Law_law_274 : decode b_Law_law 274 = .ok (.invokevirtual 74, 3) := by decide +kernel
theorem d_Law_law_277 : decode b_Law_law 277 = .ok (.if_icmp .eq 451, 3) := by decide +kernel
theorem d_Law_law_280 : decode b_Law_law 280 = .ok (.iconst 0, 1) := by decide +kernel
theorem d_Law_law_281 : decode b_Law_law 281 = .ok (.ireturn, 1) := by decide +kernel
theorem d_Law_law_282 : decode b_Law_law 282 = .ok (.aload_n 1, 1) := by decide +kernel
theorem d_Law_law_283 : decode b_Law_law 283 = .ok (.aload_n 0, 1) := by decide +kernel
theorem d_Law_law_284 : decode b_Law_law 284 = .ok (.iload 4, 2) := by decide +kernel
theorem d_Law_law_286 : decode b_Law_law 286 = .ok (.iconst 1, 1) := by decide +kernel
theorem d_Law_law_287 : decode b_Law_law 287 = .ok (.iadd, 1) := by decide +kernel
theorem d_Law_law_288 : decode b_Law_law 288 = .ok (.iaload, 1) := by decide +kernel
theorem d_Law_law_289 : decode b_Law_law 289 = .ok (.aload_n 3, 1) := by decide +kernel
theorem d_Law_law_290 : decode b_Law_law 290 = .ok (.invokestatic 75, 3) := by decide +kernel
theorem d_Law_law_293 : decode b_Law_law 293 = .ok (.istore 5, 2) := by decide +kernel
theorem d_Law_law_295 : decode b_Law_law 295 = .ok (.aload_n 2, 1) := by decide +kernel
theorem d_Law_law_296 : decode b_Law_law 296 = .ok (.aload_n 0, 1) := by decide +kernel
theorem d_Law_law_297 : decode b_Law_law 297 = .ok (.iload 4, 2) := by decide +kernel
theorem d_Law_law_299 : decode b_Law_law 299 = .ok (.iconst 1, 1) := by decide +kernel
theorem d_Law_law_300 : decode b_Law_law 300 = .ok (.iadd, 1) := by decide +kernel
theorem d_Law_law_301 : decode b_Law_law 301 = .ok (.iaload, 1) := by decide +kernel
theorem d_Law_law_302 : decode b_Law_law 302 = .ok (.invokevirtual 78, 3) := by decide +kernel
theorem d_Law_law_305 : decode b_Law_law 305 = .ok (.istore 6, 2) := by decide +kernel
theorem d_Law_law_307 : decode b_Law_law 307 = .ok (.aload_n 2, 1) := by decide +kernel
theorem d_Law_law_308 : decode b_Law_law 308 = .ok (.invokevirtual 59, 3) := by decide +kernel
theorem d_Law_law_311 : decode b_Law_law 311 = .ok (.iload 5, 2) := by decide +kernel
theorem d_Law_law_313 : decode b_Law_law 313 = .ok (.if_icmp .eq 5, 3) := by decide +kernel
theorem d_Law_law_316 : decode b_Law_law 316 = .ok (.iconst 0, 1) := by decide +kernel
theorem d_Law_law_317 : decode b_Law_law 317 = .ok (.ireturn, 1) := by decide +kernel
theorem d_Law_law_318 : decode b_Law_law 318 = .ok (.iload 5, 2) := by decide +kernel
theorem d_Law_law_320 : decode b_Law_law 320 = .ok (.ifCond .ne 15, 3) := by decide +kernel
theorem d_Law_law_323 : decode b_Law_law 323 = .ok (.aload_n 3, 1) := by decide +kernel
theorem d_Law_law_324 : decode b_Law_law 324 = .ok (.iconst 0, 1) := by decide +kernel
theorem d_Law_law_325 : decode b_Law_law 325 = .ok (.laload, 1) := by decide +kernel
theorem d_Law_law_326 : decode b_Law_law 326 = .ok (.iload 6, 2) := by decide +kernel
theorem d_Law_law_328 : decode b_Law_law 328 = .ok (.i2l, 1) := by decide +kernel
theorem d_Law_law_329 : decode b_Law_law 329 = .ok (.lcmp, 1) := by decide +kernel
theorem d_Law_law_330 : decode b_Law_law 330 = .ok (.ifCond .eq 5, 3) := by decide +kernel
theorem d_Law_law_333 : decode b_Law_law 333 = .ok (.iconst 0, 1) := by decide +kernel
theorem d_Law_law_334 : decode b_Law_law 334 = .ok (.ireturn, 1) := by decide +kernel
theorem d_Law_law_335 : decode b_Law_law 335 = .ok (.goto 393, 3) := by decide +kernel
theorem d_Law_law_338 : decode b_Law_law 338 = .ok (.aload_n 1, 1) := by decide +kernel
theorem d_Law_law_339 : decode b_Law_law 339 = .ok (.aload_n 0, 1) := by decide +kernel
theorem d_Law_law_340 : decode b_Law_law 340 = .ok (.iload 4, 2) := by decide +kernel
theorem d_Law_law_342 : decode b_Law_law 342 = .ok (.iconst 1, 1) := by decide +kernel
theorem d_Law_law_343 : decode b_Law_law 343 = .ok (.iadd, 1) := by decide +kernel
theorem d_Law_law_344 : decode b_Law_law 344 = .ok (.iaload, 1) := by decide +kernel
theorem d_Law_law_345 : decode b_Law_law 345 = .ok (.aload_n 3, 1) := by decide +kernel
theorem d_Law_law_346 : decode b_Law_law 346 = .ok (.invokestatic 79, 3) := by decide +kernel
theorem d_Law_law_349 : decode b_Law_law 349 = .ok (.istore 5, 2) := by decide +kernel
theorem d_Law_law_351 : decode b_Law_law 351 = .ok (.aload_n 2, 1) := by decide +kernel
theorem d_Law_law_352 : decode b_Law_law 352 = .ok (.aload_n 0, 1) := by decide +kernel
theorem d_Law_law_353 : decode b_Law_law 353 = .ok (.iload 4, 2) := by decide +kernel
theorem d_Law_law_355 : decode b_Law_law 355 = .ok (.iconst 1, 1) := by decide +kernel
theorem d_Law_law_356 : decode b_Law_law 356 = .ok (.iadd, 1) := by decide +kernel
theorem d_Law_law_357 : decode b_Law_law 357 = .ok (.iaload, 1) := by decide +kernel
theorem d_Law_law_358 : decode b_Law_law 358 = .ok (.invokevirtual 81, 3) := by decide +kernel
theorem d_Law_law_361 : decode b_Law_law 361 = .ok (.istore 6, 2) := by decide +kernel
theorem d_Law_law_363 : decode b_Law_law 363 = .ok (.aload_n 2, 1) := by decide +kernel
theorem d_Law_law_364 : decode b_Law_law 364 = .ok (.invokevirtual 59, 3) := by decide +kernel
theorem d_Law_law_367 : decode b_Law_law 367 = .ok (.iload 5, 2) := by decide +kernel
theorem d_Law_law_369 : decode b_Law_law 369 = .ok (.if_icmp .eq 5, 3) := by decide +kernel
theorem d_Law_law_372 : decode b_Law_law 372 = .ok (.iconst 0, 1) := by decide +kernel
theorem d_Law_law_373 : decode b_Law_law 373 = .ok (.ireturn, 1) := by decide +kernel
theorem d_Law_law_374 : decode b_Law_law 374 = .ok (.iload 5, 2) := by decide +kernel
theorem d_Law_law_376 : decode b_Law_law 376 = .ok (.ifCond .ne 15, 3) := by decide +kernel
theorem d_Law_law_379 : decode b_Law_law 379 = .ok (.aload_n 3, 1) := by decide +kernel
theorem d_Law_law_380 : decode b_Law_law 380 = .ok (.iconst 0, 1) := by decide +kernel
theorem d_Law_law_381 : decode b_Law_law 381 = .ok (.laload, 1) := by decide +kernel
theorem d_Law_law_382 : decode b_Law_law 382 = .ok (.iload 6, 2) := by decide +kernel
theorem d_Law_law_384 : decode b_Law_law 384 = .ok (.i2l, 1) := by decide +kernel
theorem d_Law_law_385 : decode b_Law_law 385 = .ok (.lcmp, 1) := by decide +kernel
theorem d_Law_law_386 : decode b_Law_law 386 = .ok (.ifCond .eq 5, 3) := by decide +kernel
theorem d_Law_law_389 : decode b_Law_law 389 = .ok (.iconst 0, 1) := by decide +kernel
theorem d_Law_law_390 : decode b_Law_law 390 = .ok (.ireturn, 1) := by decide +kernel
theorem d_Law_law_391 : decode b_Law_law 391 = .ok (.goto 337, 3) := by decide +kernel
theorem d_Law_law_394 : decode b_Law_law 394 = .ok (.aload_n 1, 1) := by decide +kernel
theorem d_Law_law_395 : decode b_Law_law 395 = .ok (.aload_n 0, 1) := by decide +kernel
theorem d_Law_law_396 : decode b_Law_law 396 = .ok (.iload 4, 2) := by decide +kernel
theorem d_Law_law_398 : decode b_Law_law 398 = .ok (.iconst 1, 1) := by decide +kernel
theorem d_Law_law_399 : decode b_Law_law 399 = .ok (.iadd, 1) := by decide +kernel
theorem d_Law_law_400 : decode b_Law_law 400 = .ok (.iaload, 1) := by decide +kernel
theorem d_Law_law_401 : decode b_Law_law 401 = .ok (.aload_n 0, 1) := by decide +kernel
theorem d_Law_law_402 : decode b_Law_law 402 = .ok (.iload 4, 2) := by decide +kernel
theorem d_Law_law_404 : decode b_Law_law 404 = .ok (.iconst 2, 1) := by decide +kernel
theorem d_Law_law_405 : decode b_Law_law 405 = .ok (.iadd, 1) := by decide +kernel
theorem d_Law_law_406 : decode b_Law_law 406 = .ok (.iaload, 1) := by decide +kernel
theorem d_Law_law_407 : decode b_Law_law 407 = .ok (.aload_n 3, 1) := by decide +kernel
theorem d_Law_law_408 : decode b_Law_law 408 = .ok (.invokestatic 82, 3) := by decide +kernel
theorem d_Law_law_411 : decode b_Law_law 411 = .ok (.istore 5, 2) := by decide +kernel
theorem d_Law_law_413 : decode b_Law_law 413 = .ok (.aload_n 2, 1) := by decide +kernel
theorem d_Law_law_414 : decode b_Law_law 414 = .ok (.aload_n 0, 1) := by decide +kernel
theorem d_Law_law_415 : decode b_Law_law 415 = .ok (.iload 4, 2) := by decide +kernel
theorem d_Law_law_417 : decode b_Law_law 417 = .ok (.iconst 1, 1) := by decide +kernel
theorem d_Law_law_418 : decode b_Law_law 418 = .ok (.iadd, 1) := by decide +kernel
theorem d_Law_law_419 : decode b_Law_law 419 = .ok (.iaload, 1) := by decide +kernel
theorem d_Law_law_420 : decode b_Law_law 420 = .ok (.aload_n 0, 1) := by decide +kernel
theorem d_Law_law_421 : decode b_Law_law 421 = .ok (.iload 4, 2) := by decide +kernel
theorem d_Law_law_423 : decode b_Law_law 423 = .ok (.iconst 2, 1) := by decide +kernel
theorem d_Law_law_424 : decode b_Law_law 424 = .ok (.iadd, 1) := by decide +kernel
theorem d_Law_law_425 : decode b_Law_law 425 = .ok (.iaload, 1) := by decide +kernel
theorem d_Law_law_426 : decode b_Law_law 426 = .ok (.invokevirtual 85, 3) := by decide +kernel
theorem d_Law_law_429 : decode b_Law_law 429 = .ok (.istore 6, 2) := by decide +kernel
theorem d_Law_law_431 : decode b_Law_law 431 = .ok (.aload_n 2, 1) := by decide +kernel
theorem d_Law_law_432 : decode b_Law_law 432 = .ok (.invokevirtual 59, 3) := by decide +kernel
theorem d_Law_law_435 : decode b_Law_law 435 = .ok (.iload 5, 2) := by decide +kernel
theorem d_Law_law_437 : decode b_Law_law 437 = .ok (.if_icmp .eq 5, 3) := by decide +kernel
theorem d_Law_law_440 : decode b_Law_law 440 = .ok (.iconst 0, 1) := by decide +kernel
theorem d_Law_law_441 : decode b_Law_law 441 = .ok (.ireturn, 1) := by decide +kernel
theorem d_Law_law_442 : decode b_Law_law 442 = .ok (.iload 5, 2) := by decide +kernel
theorem d_Law_law_444 : decode b_Law_law 444 = .ok (.ifCond .ne 15, 3) := by decide +kernel
theorem d_Law_law_447 : decode b_Law_law 447 = .ok (.aload_n 3, 1) := by decide +kernel
theorem d_Law_law_448 : decode b_Law_law 448 = .ok (.iconst 0, 1) := by decide +kernel
theorem d_Law_law_449 : decode b_Law_law 449 = .ok (.laload, 1) := by decide +kernel
theorem d_Law_law_450 : decode b_Law_law 450 = .ok (.iload 6, 2) := by decide +kernel
theorem d_Law_law_452 : decode b_Law_law 452 = .ok (.i2l, 1) := by decide +kernel
theorem d_Law_law_453 : decode b_Law_law 453 = .ok (.lcmp, 1) := by decide +kernel
theorem d_Law_law_454 : decode b_Law_law 454 = .ok (.ifCond .eq 5, 3) := by decide +kernel
theorem d_Law_law_457 : decode b_Law_law 457 = .ok (.iconst 0, 1) := by decide +kernel
theorem d_Law_law_458 : decode b_Law_law 458 = .ok (.ireturn, 1) := by decide +kernel
theorem d_Law_law_459 : decode b_Law_law 459 = .ok (.goto 269, 3) := by decide +kernel
theorem d_Law_law_462 : decode b_Law_law 462 = .ok (.aload_n 1, 1) := by decide +kernel
theorem d_Law_law_463 : decode b_Law_law 463 = .ok (.aload_n 0, 1) := by decide +kernel
theorem d_Law_law_464 : decode b_Law_law 464 = .ok (.iload 4, 2) := by decide +kernel
theorem d_Law_law_466 : decode b_Law_law 466 = .ok (.iconst 1, 1) := by decide +kernel
theorem d_Law_law_467 : decode b_Law_law 467 = .ok (.iadd, 1) := by decide +kernel
theorem d_Law_law_468 : decode b_Law_law 468 = .ok (.iaload, 1) := by decide +kernel
theorem d_Law_law_469 : decode b_Law_law 469 = .ok (.aload_n 3, 1) := by decide +kernel
theorem d_Law_law_470 : decode b_Law_law 470 = .ok (.invokestatic 86, 3) := by decide +kernel
theorem d_Law_law_473 : decode b_Law_law 473 = .ok (.istore 5, 2) := by decide +kernel
theorem d_Law_law_475 : decode b_Law_law 475 = .ok (.aload_n 2, 1) := by decide +kernel
theorem d_Law_law_476 : decode b_Law_law 476 = .ok (.aload_n 0, 1) := by decide +kernel
theorem d_Law_law_477 : decode b_Law_law 477 = .ok (.iload 4, 2) := by decide +kernel
theorem d_Law_law_479 : decode b_Law_law 479 = .ok (.iconst 1, 1) := by decide +kernel
theorem d_Law_law_480 : decode b_Law_law 480 = .ok (.iadd, 1) := by decide +kernel
theorem d_Law_law_481 : decode b_Law_law 481 = .ok (.iaload, 1) := by decide +kernel
theorem d_Law_law_482 : decode b_Law_law 482 = .ok (.invokevirtual 88, 3) := by decide +kernel
theorem d_Law_law_485 : decode b_Law_law 485 = .ok (.istore 6, 2) := by decide +kernel
theorem d_Law_law_487 : decode b_Law_law 487 = .ok (.aload_n 2, 1) := by decide +kernel
theorem d_Law_law_488 : decode b_Law_law 488 = .ok (.invokevirtual 59, 3) := by decide +kernel
theorem d_Law_law_491 : decode b_Law_law 491 = .ok (.iload 5, 2) := by decide +kernel
theorem d_Law_law_493 : decode b_Law_law 493 = .ok (.if_icmp .eq 5, 3) := by decide +kernel
theorem d_Law_law_496 : decode b_Law_law 496 = .ok (.iconst 0, 1) := by decide +kernel
theorem d_Law_law_497 : decode b_Law_law 497 = .ok (.ireturn, 1) := by decide +kernel
theorem d_Law_law_498 : decode b_Law_law 498 = .ok (.iload 5, 2) := by decide +kernel
theorem d_Law_law_500 : decode b_Law_law 500 = .ok (.ifCond .ne 15, 3) := by decide +kernel
theorem d_Law_law_503 : decode b_Law_law 503 = .ok (.aload_n 3, 1) := by decide +kernel
theorem d_Law_law_504 : decode b_Law_law 504 = .ok (.iconst 0, 1) := by decide +kernel
theorem d_Law_law_505 : decode b_Law_law 505 = .ok (.laload, 1) := by decide +kernel
theorem d_Law_law_506 : decode b_Law_law 506 = .ok (.iload 6, 2) := by decide +kernel
theorem d_Law_law_508 : decode b_Law_law 508 = .ok (.i2l, 1) := by decide +kernel
theorem d_Law_law_509 : decode b_Law_law 509 = .ok (.lcmp, 1) := by decide +kernel
theorem d_Law_law_510 : decode b_Law_law 510 = .ok (.ifCond .eq 5, 3) := by decide +kernel
theorem d_Law_law_513 : decode b_Law_law 513 = .ok (.iconst 0, 1) := by decide +kernel
theorem d_Law_law_514 : decode b_Law_law 514 = .ok (.ireturn, 1) := by decide +kernel
theorem d_Law_law_515 : decode b_Law_law 515 = .ok (.goto 213, 3) := by decide +kernel
theorem d_Law_law_518 : decode b_Law_law 518 = .ok (.aload_n 1, 1) := by decide +kernel
theorem d_Law_law_519 : decode b_Law_law 519 = .ok (.aload_n 0, 1) := by decide +kernel
theorem d_Law_law_520 : decode b_Law_law 520 = .ok (.iload 4, 2) := by decide +kernel
theorem d_Law_law_522 : decode b_Law_law 522 = .ok (.iconst 1, 1) := by decide +kernel
theorem d_Law_law_523 : decode b_Law_law 523 = .ok (.iadd, 1) := by decide +kernel
theorem d_Law_law_524 : decode b_Law_law 524 = .ok (.iaload, 1) := by decide +kernel
theorem d_Law_law_525 : decode b_Law_law 525 = .ok (.invokevirtual 89, 3) := by decide +kernel
theorem d_Law_law_528 : decode b_Law_law 528 = .ok (.aload_n 2, 1) := by decide +kernel
theorem d_Law_law_529 : decode b_Law_law 529 = .ok (.aload_n 0, 1) := by decide +kernel
theorem d_Law_law_530 : decode b_Law_law 530 = .ok (.iload 4, 2) := by decide +kernel
theorem d_Law_law_532 : decode b_Law_law 532 = .ok (.iconst 1, 1) := by decide +kernel
theorem d_Law_law_533 : decode b_Law_law 533 = .ok (.iadd, 1) := by decide +kernel
theorem d_Law_law_534 : decode b_Law_law 534 = .ok (.iaload, 1) := by decide +kernel
theorem d_Law_law_535 : decode b_Law_law 535 = .ok (.invokevirtual 93, 3) := by decide +kernel
theorem d_Law_law_538 : decode b_Law_law 538 = .ok (.if_icmp .eq 190, 3) := by decide +kernel
theorem d_Law_law_541 : decode b_Law_law 541 = .ok (.iconst 0, 1) := by decide +kernel
theorem d_Law_law_542 : decode b_Law_law 542 = .ok (.ireturn, 1) := by decide +kernel
theorem d_Law_law_543 : decode b_Law_law 543 = .ok (.aload_n 1, 1) := by decide +kernel
theorem d_Law_law_544 : decode b_Law_law 544 = .ok (.invokevirtual 94, 3) := by decide +kernel
theorem d_Law_law_547 : decode b_Law_law 547 = .ok (.aload_n 2, 1) := by decide +kernel
theorem d_Law_law_548 : decode b_Law_law 548 = .ok (.invokevirtual 97, 3) := by decide +kernel
theorem d_Law_law_551 : decode b_Law_law 551 = .ok (.if_icmp .eq 177, 3) := by decide +kernel
theorem d_Law_law_554 : decode b_Law_law 554 = .ok (.iconst 0, 1) := by decide +kernel
theorem d_Law_law_555 : decode b_Law_law 555 = .ok (.ireturn, 1) := by decide +kernel
theorem d_Law_law_556 : decode b_Law_law 556 = .ok (.aload_n 1, 1) := by decide +kernel
theorem d_Law_law_557 : decode b_Law_law 557 = .ok (.aload_n 0, 1) := by decide +kernel
theorem d_Law_law_558 : decode b_Law_law 558 = .ok (.iload 4, 2) := by decide +kernel
theorem d_Law_law_560 : decode b_Law_law 560 = .ok (.iconst 1, 1) := by decide +kernel
theorem d_Law_law_561 : decode b_Law_law 561 = .ok (.iadd, 1) := by decide +kernel
theorem d_Law_law_562 : decode b_Law_law 562 = .ok (.iaload, 1) := by decide +kernel
theorem d_Law_law_563 : decode b_Law_law 563 = .ok (.aload_n 0, 1) := by decide +kernel
theorem d_Law_law_564 : decode b_Law_law 564 = .ok (.iload 4, 2) := by decide +kernel
theorem d_Law_law_566 : decode b_Law_law 566 = .ok (.iconst 2, 1) := by decide +kernel
theorem d_Law_law_567 : decode b_Law_law 567 = .ok (.iadd, 1) := by decide +kernel
theorem d_Law_law_568 : decode b_Law_law 568 = .ok (.iaload, 1) := by decide +kernel
theorem d_Law_law_569 : decode b_Law_law 569 = .ok (.aload_n 0, 1) := by decide +kernel
theorem d_Law_law_570 : decode b_Law_law 570 = .ok (.iload 4, 2) := by decide +kernel
theorem d_Law_law_572 : decode b_Law_law 572 = .ok (.iconst 3, 1) := by decide +kernel
theorem d_Law_law_573 : decode b_Law_law 573 = .ok (.iadd, 1) := by decide +kernel
theorem d_Law_law_574 : decode b_Law_law 574 = .ok (.iaload, 1) := by decide +kernel
theorem d_Law_law_575 : decode b_Law_law 575 = .ok (.aload_n 3, 1) := by decide +kernel
theorem d_Law_law_576 : decode b_Law_law 576 = .ok (.invokestatic 98, 3) := by decide +kernel
theorem d_Law_law_579 : decode b_Law_law 579 = .ok (.istore 5, 2) := by decide +kernel
theorem d_Law_law_581 : decode b_Law_law 581 = .ok (.aload_n 2, 1) := by decide +kernel
theorem d_Law_law_582 : decode b_Law_law 582 = .ok (.aload_n 0, 1) := by decide +kernel
theorem d_Law_law_583 : decode b_Law_law 583 = .ok (.iload 4, 2) := by decide +kernel
theorem d_Law_law_585 : decode b_Law_law 585 = .ok (.iconst 1, 1) := by decide +kernel
theorem d_Law_law_586 : decode b_Law_law 586 = .ok (.iadd, 1) := by decide +kernel
theorem d_Law_law_587 : decode b_Law_law 587 = .ok (.iaload, 1) := by decide +kernel
theorem d_Law_law_588 : decode b_Law_law 588 = .ok (.aload_n 0, 1) := by decide +kernel
theorem d_Law_law_589 : decode b_Law_law 589 = .ok (.iload 4, 2) := by decide +kernel
theorem d_Law_law_591 : decode b_Law_law 591 = .ok (.iconst 2, 1) := by decide +kernel
theorem d_Law_law_592 : decode b_Law_law 592 = .ok (.iadd, 1) := by decide +kernel
theorem d_Law_law_593 : decode b_Law_law 593 = .ok (.iaload, 1) := by decide +kernel
theorem d_Law_law_594 : decode b_Law_law 594 = .ok (.aload_n 0, 1) := by decide +kernel
theorem d_Law_law_595 : decode b_Law_law 595 = .ok (.iload 4, 2) := by decide +kernel
theorem d_Law_law_597 : decode b_Law_law 597 = .ok (.iconst 3, 1) := by decide +kernel
theorem d_Law_law_598 : decode b_Law_law 598 = .ok (.iadd, 1) := by decide +kernel
theorem d_Law_law_599 : decode b_Law_law 599 = .ok (.iaload, 1) := by decide +kernel
theorem d_Law_law_600 : decode b_Law_law 600 = .ok (.invokevirtual 101, 3) := by decide +kernel
theorem d_Law_law_603 : decode b_Law_law 603 = .ok (.istore 6, 2) := by decide +kernel
theorem d_Law_law_605 : decode b_Law_law 605 = .ok (.aload_n 2, 1) := by decide +kernel
theorem d_Law_law_606 : decode b_Law_law 606 = .ok (.invokevirtual 59, 3) := by decide +kernel
theorem d_Law_law_609 : decode b_Law_law 609 = .ok (.iload 5, 2) := by decide +kernel
theorem d_Law_law_611 : decode b_Law_law 611 = .ok (.if_icmp .eq 5, 3) := by decide +kernel
theorem d_Law_law_614 : decode b_Law_law 614 = .ok (.iconst 0, 1) := by decide +kernel
theorem d_Law_law_615 : decode b_Law_law 615 = .ok (.ireturn, 1) := by decide +kernel
theorem d_Law_law_616 : decode b_Law_law 616 = .ok (.iload 5, 2) := by decide +kernel
theorem d_Law_law_618 : decode b_Law_law 618 = .ok (.ifCond .ne 15, 3) := by decide +kernel
theorem d_Law_law_621 : decode b_Law_law 621 = .ok (.aload_n 3, 1) := by decide +kernel
theorem d_Law_law_622 : decode b_Law_law 622 = .ok (.iconst 0, 1) := by decide +kernel
theorem d_Law_law_623 : decode b_Law_law 623 = .ok (.laload, 1) := by decide +kernel
theorem d_Law_law_624 : decode b_Law_law 624 = .ok (.iload 6, 2) := by decide +kernel
theorem d_Law_law_626 : decode b_Law_law 626 = .ok (.i2l, 1) := by decide +kernel
theorem d_Law_law_627 : decode b_Law_law 627 = .ok (.lcmp, 1) := by decide +kernel
theorem d_Law_law_628 : decode b_Law_law 628 = .ok (.ifCond .eq 5, 3) := by decide +kernel
theorem d_Law_law_631 : decode b_Law_law 631 = .ok (.iconst 0, 1) := by decide +kernel
theorem d_Law_law_632 : decode b_Law_law 632 = .ok (.ireturn, 1) := by decide +kernel
theorem d_Law_law_633 : decode b_Law_law 633 = .ok (.goto 95, 3) := by decide +kernel
theorem d_Law_law_636 : decode b_Law_law 636 = .ok (.aload_n 1, 1) := by decide +kernel
theorem d_Law_law_637 : decode b_Law_law 637 = .ok (.aload_n 0, 1) := by decide +kernel
theorem d_Law_law_638 : decode b_Law_law 638 = .ok (.iload 4, 2) := by decide +kernel
theorem d_Law_law_640 : decode b_Law_law 640 = .ok (.iconst 1, 1) := by decide +kernel
theorem d_Law_law_641 : decode b_Law_law 641 = .ok (.iadd, 1) := by decide +kernel
theorem d_Law_law_642 : decode b_Law_law 642 = .ok (.iaload, 1) := by decide +kernel
theorem d_Law_law_643 : decode b_Law_law 643 = .ok (.aload_n 3, 1) := by decide +kernel
theorem d_Law_law_644 : decode b_Law_law 644 = .ok (.invokestatic 102, 3) := by decide +kernel
theorem d_Law_law_647 : decode b_Law_law 647 = .ok (.istore 5, 2) := by decide +kernel
theorem d_Law_law_649 : decode b_Law_law 649 = .ok (.aload_n 2, 1) := by decide +kernel
theorem d_Law_law_650 : decode b_Law_law 650 = .ok (.aload_n 0, 1) := by decide +kernel
theorem d_Law_law_651 : decode b_Law_law 651 = .ok (.iload 4, 2) := by decide +kernel
theorem d_Law_law_653 : decode b_Law_law 653 = .ok (.iconst 1, 1) := by decide +kernel
theorem d_Law_law_654 : decode b_Law_law 654 = .ok (.iadd, 1) := by decide +kernel
theorem d_Law_law_655 : decode b_Law_law 655 = .ok (.iaload, 1) := by decide +kernel
theorem d_Law_law_656 : decode b_Law_law 656 = .ok (.invokevirtual 104, 3) := by decide +kernel
theorem d_Law_law_659 : decode b_Law_law 659 = .ok (.istore 6, 2) := by decide +kernel
theorem d_Law_law_661 : decode b_Law_law 661 = .ok (.aload_n 2, 1) := by decide +kernel
theorem d_Law_law_662 : decode b_Law_law 662 = .ok (.invokevirtual 59, 3) := by decide +kernel
theorem d_Law_law_665 : decode b_Law_law 665 = .ok (.iload 5, 2) := by decide +kernel
theorem d_Law_law_667 : decode b_Law_law 667 = .ok (.if_icmp .eq 5, 3) := by decide +kernel
theorem d_Law_law_670 : decode b_Law_law 670 = .ok (.iconst 0, 1) := by decide +kernel
theorem d_Law_law_671 : decode b_Law_law 671 = .ok (.ireturn, 1) := by decide +kernel
theorem d_Law_law_672 : decode b_Law_law 672 = .ok (.iload 5, 2) := by decide +kernel
theorem d_Law_law_674 : decode b_Law_law 674 = .ok (.ifCond .ne 15, 3) := by decide +kernel
theorem d_Law_law_677 : decode b_Law_law 677 = .ok (.aload_n 3, 1) := by decide +kernel
theorem d_Law_law_678 : decode b_Law_law 678 = .ok (.iconst 0, 1) := by decide +kernel
theorem d_Law_law_679 : decode b_Law_law 679 = .ok (.laload, 1) := by decide +kernel
theorem d_Law_law_680 : decode b_Law_law 680 = .ok (.iload 6, 2) := by decide +kernel
theorem d_Law_law_682 : decode b_Law_law 682 = .ok (.i2l, 1) := by decide +kernel
theorem d_Law_law_683 : decode b_Law_law 683 = .ok (.lcmp, 1) := by decide +kernel
theorem d_Law_law_684 : decode b_Law_law 684 = .ok (.ifCond .eq 5, 3) := by decide +kernel
theorem d_Law_law_687 : decode b_Law_law 687 = .ok (.iconst 0, 1) := by decide +kernel
theorem d_Law_law_688 : decode b_Law_law 688 = .ok (.ireturn, 1) := by decide +kernel
theorem d_Law_law_689 : decode b_Law_law 689 = .ok (.goto 39, 3) := by decide +kernel
theorem d_Law_law_692 : decode b_Law_law 692 = .ok (.aload_n 1, 1) := by decide +kernel
theorem d_Law_law_693 : decode b_Law_law 693 = .ok (.aload_n 0, 1) := by decide +kernel
theorem d_Law_law_694 : decode b_Law_law 694 = .ok (.iload 4, 2) := by decide +kernel
theorem d_Law_law_696 : decode b_Law_law 696 = .ok (.iconst 1, 1) := by decide +kernel
theorem d_Law_law_697 : decode b_Law_law 697 = .ok (.iadd, 1) := by decide +kernel
theorem d_Law_law_698 : decode b_Law_law 698 = .ok (.iaload, 1) := by decide +kernel
theorem d_Law_law_699 : decode b_Law_law 699 = .ok (.invokevirtual 105, 3) := by decide +kernel
theorem d_Law_law_702 : decode b_Law_law 702 = .ok (.aload_n 2, 1) := by decide +kernel
theorem d_Law_law_703 : decode b_Law_law 703 = .ok (.aload_n 0, 1) := by decide +kernel
theorem d_Law_law_704 : decode b_Law_law 704 = .ok (.iload 4, 2) := by decide +kernel
theorem d_Law_law_706 : decode b_Law_law 706 = .ok (.iconst 1, 1) := by decide +kernel
theorem d_Law_law_707 : decode b_Law_law 707 = .ok (.iadd, 1) := by decide +kernel
theorem d_Law_law_708 : decode b_Law_law 708 = .ok (.iaload, 1) := by decide +kernel
theorem d_Law_law_709 : decode b_Law_law 709 = .ok (.invokevirtual 108, 3) := by decide +kernel
theorem d_Law_law_712 : decode b_Law_law 712 = .ok (.if_icmp .eq 16, 3) := by decide +kernel
theorem d_Law_law_715 : decode b_Law_law 715 = .ok (.iconst 0, 1) := by decide +kernel
theorem d_Law_law_716 : decode b_Law_law 716 = .ok (.ireturn, 1) := by decide +kernel
theorem d_Law_law_717 : decode b_Law_law 717 = .ok (.aload_n 1, 1) := by decide +kernel
theorem d_Law_law_718 : decode b_Law_law 718 = .ok (.invokevirtual 109, 3) := by decide +kernel
theorem d_Law_law_721 : decode b_Law_law 721 = .ok (.aload_n 2, 1) := by decide +kernel
theorem d_Law_law_722 : decode b_Law_law 722 = .ok (.invokevirtual 112, 3) := by decide +kernel
theorem d_Law_law_725 : decode b_Law_law 725 = .ok (.goto 3, 3) := by decide +kernel
theorem d_Law_law_728 : decode b_Law_law 728 = .ok (.iinc 4 4, 3) := by decide +kernel
theorem d_Law_law_731 : decode b_Law_law 731 = .ok (.goto (-688), 3) := by decide +kernel
theorem d_Law_law_734 : decode b_Law_law 734 = .ok (.iconst 1, 1) := by decide +kernel
theorem d_Law_law_735 : decode b_Law_law 735 = .ok (.ireturn, 1) := by decide +kernel
end
section
theorem d_Model_init_0 : decode b_Model_init 0 = .ok (.aload_n 0, 1) := by decide +kernel
theorem d_Model_init_1 : decode b_Model_init 1 = .ok (.invokespecial 1, 3) := by decide +kernel
theorem d_Model_init_4 : decode b_Model_init 4 = .ok (.aload_n 0, 1) := by decide +kernel
theorem d_Model_init_5 : decode b_Model_init 5 = .ok (.bipush 80, 2) := by decide +kernel
theorem d_Model_init_7 : decode b_Model_init 7 = .ok (.newarray .char, 2) := by decide +kernel
theorem d_Model_init_9 : decode b_Model_init 9 = .ok (.putfield 7, 3) := by decide +kernel
theorem d_Model_init_12 : decode b_Model_init 12 = .ok (.aload_n 0, 1) := by decide +kernel
theorem d_Model_init_13 : decode b_Model_init 13 = .ok (.bipush 24, 2) := by decide +kernel
theorem d_Model_init_15 : decode b_Model_init 15 = .ok (.newarray .int, 2) := by decide +kernel
theorem d_Model_init_17 : decode b_Model_init 17 = .ok (.putfield 13, 3) := by decide +kernel
theorem d_Model_init_20 : decode b_Model_init 20 = .ok (.aload_n 0, 1) := by decide +kernel
theorem d_Model_init_21 : decode b_Model_init 21 = .ok (.bipush 24, 2) := by decide +kernel
theorem d_Model_init_23 : decode b_Model_init 23 = .ok (.newarray .int, 2) := by decide +kernel
theorem d_Model_init_25 : decode b_Model_init 25 = .ok (.putfield 17, 3) := by decide +kernel
theorem d_Model_init_28 : decode b_Model_init 28 = .ok (.aload_n 0, 1) := by decide +kernel
theorem d_Model_init_29 : decode b_Model_init 29 = .ok (.sipush 144, 3) := by decide +kernel
theorem d_Model_init_32 : decode b_Model_init 32 = .ok (.newarray .char, 2) := by decide +kernel
theorem d_Model_init_34 : decode b_Model_init 34 = .ok (.putfield 20, 3) := by decide +kernel
theorem d_Model_init_37 : decode b_Model_init 37 = .ok (.aload_n 0, 1) := by decide +kernel
theorem d_Model_init_38 : decode b_Model_init 38 = .ok (.bipush 24, 2) := by decide +kernel
theorem d_Model_init_40 : decode b_Model_init 40 = .ok (.newarray .int, 2) := by decide +kernel
theorem d_Model_init_42 : decode b_Model_init 42 = .ok (.putfield 23, 3) := by decide +kernel
theorem d_Model_init_45 : decode b_Model_init 45 = .ok (.aload_n 0, 1) := by decide +kernel
theorem d_Model_init_46 : decode b_Model_init 46 = .ok (.bipush 72, 2) := by decide +kernel
theorem d_Model_init_48 : decode b_Model_init 48 = .ok (.newarray .int, 2) := by decide +kernel
theorem d_Model_init_50 : decode b_Model_init 50 = .ok (.putfield 26, 3) := by decide +kernel
theorem d_Model_init_53 : decode b_Model_init 53 = .ok (.aload_n 0, 1) := by decide +kernel
theorem d_Model_init_54 : decode b_Model_init 54 = .ok (.iconst (-1), 1) := by decide +kernel
theorem d_Model_init_55 : decode b_Model_init 55 = .ok (.putfield 29, 3) := by decide +kernel
theorem d_Model_init_58 : decode b_Model_init 58 = .ok (.aload_n 0, 1) := by decide +kernel
theorem d_Model_init_59 : decode b_Model_init 59 = .ok (.bipush 12, 2) := by decide +kernel
theorem d_Model_init_61 : decode b_Model_init 61 = .ok (.newarray .int, 2) := by decide +kernel
theorem d_Model_init_63 : decode b_Model_init 63 = .ok (.putfield 33, 3) := by decide +kernel
theorem d_Model_init_66 : decode b_Model_init 66 = .ok (.aload_n 0, 1) := by decide +kernel
theorem d_Model_init_67 : decode b_Model_init 67 = .ok (.bipush 12, 2) := by decide +kernel
theorem d_Model_init_69 : decode b_Model_init 69 = .ok (.newarray .int, 2) := by decide +kernel
theorem d_Model_init_71 : decode b_Model_init 71 = .ok (.putfield 36, 3) := by decide +kernel
theorem d_Model_init_74 : decode b_Model_init 74 = .ok (.aload_n 0, 1) := by decide +kernel
theorem d_Model_init_75 : decode b_Model_init 75 = .ok (.sipush 2880, 3) := by decide +kernel
theorem d_Model_init_78 : decode b_Model_init 78 = .ok (.newarray .int, 2) := by decide +kernel
theorem d_Model_init_80 : decode b_Model_init 80 = .ok (.putfield 39, 3) := by decide +kernel
theorem d_Model_init_83 : decode b_Model_init 83 = .ok (.aload_n 0, 1) := by decide +kernel
theorem d_Model_init_84 : decode b_Model_init 84 = .ok (.sipush 2880, 3) := by decide +kernel
theorem d_Model_init_87 : decode b_Model_init 87 = .ok (.newarray .int, 2) := by decide +kernel
theorem d_Model_init_89 : decode b_Model_init 89 = .ok (.putfield 42, 3) := by decide +kernel
theorem d_Model_init_92 : decode b_Model_init 92 = .ok (.aload_n 0, 1) := by decide +kernel
theorem d_Model_init_93 : decode b_Model_init 93 = .ok (.sipush 1500, 3) := by decide +kernel
theorem d_Model_init_96 : decode b_Model_init 96 = .ok (.newarray .char, 2) := by decide +kernel
theorem d_Model_init_98 : decode b_Model_init 98 = .ok (.putfield 45, 3) := by decide +kernel
theorem d_Model_init_101 : decode b_Model_init 101 = .ok (.aload_n 0, 1) := by decide +kernel
theorem d_Model_init_102 : decode b_Model_init 102 = .ok (.bipush 40, 2) := by decide +kernel
theorem d_Model_init_104 : decode b_Model_init 104 = .ok (.newarray .int, 2) := by decide +kernel
theorem d_Model_init_106 : decode b_Model_init 106 = .ok (.putfield 48, 3) := by decide +kernel
theorem d_Model_init_109 : decode b_Model_init 109 = .ok (.aload_n 0, 1) := by decide +kernel
theorem d_Model_init_110 : decode b_Model_init 110 = .ok (.bipush 40, 2) := by decide +kernel
theorem d_Model_init_112 : decode b_Model_init 112 = .ok (.newarray .int, 2) := by decide +kernel
theorem d_Model_init_114 : decode b_Model_init 114 = .ok (.putfield 51, 3) := by decide +kernel
theorem d_Model_init_117 : decode b_Model_init 117 = .ok (.aload_n 0, 1) := by decide +kernel
theorem d_Model_init_118 : decode b_Model_init 118 = .ok (.bipush 12, 2) := by decide +kernel
theorem d_Model_init_120 : decode b_Model_init 120 = .ok (.newarray .int, 2) := by decide +kernel
theorem d_Model_init_122 : decode b_Model_init 122 = .ok (.putfield 54, 3) := by decide +kernel
theorem d_Model_init_125 : decode b_Model_init 125 = .ok (.aload_n 0, 1) := by decide +kernel
theorem d_Model_init_126 : decode b_Model_init 126 = .ok (.iload_n 1, 1) := by decide +kernel
theorem d_Model_init_127 : decode b_Model_init 127 = .ok (.bipush 10, 2) := by decide +kernel
theorem d_Model_init_129 : decode b_Model_init 129 = .ok (.if_icmp .ge 8, 3) := by decide +kernel
theorem d_Model_init_132 : decode b_Model_init 132 = .ok (.bipush 10, 2) := by decide +kernel
theorem d_Model_init_134 : decode b_Model_init 134 = .ok (.goto 15, 3) := by decide +kernel
theorem d_Model_init_137 : decode b_Model_init 137 = .ok (.iload_n 1, 1) := by decide +kernel
theorem d_Model_init_138 : decode b_Model_init 138 = .ok (.bipush 40, 2) := by decide +kernel
theorem d_Model_init_140 : decode b_Model_init 140 = .ok (.if_icmp .le 8, 3) := by decide +kernel
theorem d_Model_init_143 : decode b_Model_init 143 = .ok (.bipush 40, 2) := by decide +kernel
theorem d_Model_init_145 : decode b_Model_init 145 = .ok (.goto 4, 3) := by decide +kernel
theorem d_Model_init_148 : decode b_Model_init 148 = .ok (.iload_n 1, 1) := by decide +kernel
theorem d_Model_init_149 : decode b_Model_init 149 = .ok (.putfield 57, 3) := by decide +kernel
theorem d_Model_init_152 : decode b_Model_init 152 = .ok (.aload_n 0, 1) := by decide +kernel
theorem d_Model_init_153 : decode b_Model_init 153 = .ok (.iload_n 2, 1) := by decide +kernel
theorem d_Model_init_154 : decode b_Model_init 154 = .ok (.iconst 4, 1) := by decide +kernel
theorem d_Model_init_155 : decode b_Model_init 155 = .ok (.if_icmp .ge 7, 3) := by decide +kernel
theorem d_Model_init_158 : decode b_Model_init 158 = .ok (.iconst 4, 1) := by decide +kernel
theorem d_Model_init_159 : decode b_Model_init 159 = .ok (.goto 15, 3) := by decide +kernel
theorem d_Model_init_162 : decode b_Model_init 162 = .ok (.iload_n 2, 1) := by decide +kernel
theorem d_Model_init_163 : decode b_Model_init 163 = .ok (.bipush 20, 2) := by decide +kernel
theorem d_Model_init_165 : decode b_Model_init 165 = .ok (.if_icmp .le 8, 3) := by decide +kernel
theorem d_Model_init_168 : decode b_Model_init 168 = .ok (.bipush 20, 2) := by decide +kernel
theorem d_Model_init_170 : decode b_Model_init 170 = .ok (.goto 4, 3) := by decide +kernel
theorem d_Model_init_173 : decode b_Model_init 173 = .ok (.iload_n 2, 1) := by decide +kernel
theorem d_Model_init_174 : decode b_Model_init 174 = .ok (.putfield 60, 3) := by decide +kernel
theorem d_Model_init_177 : decode b_Model_init 177 = .ok (.return_, 1) := by decide +kernel
theorem d_Model_thrown_0 : decode b_Model_thrown 0 = .ok (.aload_n 0, 1) := by decide +kernel
theorem d_Model_thrown_1 : decode b_Model_thrown 1 = .ok (.getfield 63, 3) := by decide +kernel
theorem d_Model_thrown_4 : decode b_Model_thrown 4 = .ok (.ireturn, 1) := by decide +kernel
theorem d_Model_isSmall_0 : decode b_Model_isSmall 0 = .ok (.iload_n 1, 1) := by decide +kernel
theorem d_Model_isSmall_1 : decode b_Model_isSmall 1 = .ok (.bipush 97, 2) := by decide +kernel
theorem d_Model_isSmall_3 : decode b_Model_isSmall 3 = .ok (.if_icmp .lt 13, 3) := by decide +kernel
theorem d_Model_isSmall_6 : decode b_Model_isSmall 6 = .ok (.iload_n 1, 1) := by decide +kernel
theorem d_Model_isSmall_7 : decode b_Model_isSmall 7 = .ok (.bipush 122, 2) := by decide +kernel
theorem d_Model_isSmall_9 : decode b_Model_isSmall 9 = .ok (.if_icmp .gt 7, 3) := by decide +kernel
theorem d_Model_isSmall_12 : decode b_Model_isSmall 12 = .ok (.iconst 1, 1) := by decide +kernel
theorem d_Model_isSmall_13 : decode b_Model_isSmall 13 = .ok (.goto 4, 3) := by decide +kernel
theorem d_Model_isSmall_16 : decode b_Model_isSmall 16 = .ok (.iconst 0, 1) := by decide +kernel
theorem d_Model_isSmall_17 : decode b_Model_isSmall 17 = .ok (.ireturn, 1) := by decide +kernel
theorem d_Model_isCapital_0 : decode b_Model_isCapital 0 = .ok (.iload_n 1, 1) := by decide +kernel
theorem d_Model_isCapital_1 : decode b_Model_isCapital 1 = .ok (.bipush 65, 2) := by decide +kernel
theorem d_Model_isCapital_3 : decode b_Model_isCapital 3 = .ok (.if_icmp .lt 13, 3) := by decide +kernel
theorem d_Model_isCapital_6 : decode b_Model_isCapital 6 = .ok (.iload_n 1, 1) := by decide +kernel
theorem d_Model_isCapital_7 : decode b_Model_isCapital 7 = .ok (.bipush 90, 2) := by decide +kernel
theorem d_Model_isCapital_9 : decode b_Model_isCapital 9 = .ok (.if_icmp .gt 7, 3) := by decide +kernel
theorem d_Model_isCapital_12 : decode b_Model_isCapital 12 = .ok (.iconst 1, 1) := by decide +kernel
theorem d_Model_isCapital_13 : decode b_Model_isCapital 13 = .ok (.goto 4, 3) := by decide +kernel
theorem d_Model_isCapital_16 : decode b_Model_isCapital 16 = .ok (.iconst 0, 1) := by decide +kernel
theorem d_Model_isCapital_17 : decode b_Model_isCapital 17 = .ok (.ireturn, 1) := by decide +kernel
theorem d_Model_isLetter_0 : decode b_Model_isLetter 0 = .ok (.aload_n 0, 1) := by decide +kernel
theorem d_Model_isLetter_1 : decode b_Model_isLetter 1 = .ok (.iload_n 1, 1) := by decide +kernel
theorem d_Model_isLetter_2 : decode b_Model_isLetter 2 = .ok (.invokevirtual 66, 3) := by decide +kernel
theorem d_Model_isLetter_5 : decode b_Model_isLetter 5 = .ok (.ifCond .ne 11, 3) := by decide +kernel
theorem d_Model_isLetter_8 : decode b_Model_isLetter 8 = .ok (.aload_n 0, 1) := by decide +kernel
theorem d_Model_isLetter_9 : decode b_Model_isLetter 9 = .ok (.iload_n 1, 1) := by decide +kernel
theorem d_Model_isLetter_10 : decode b_Model_isLetter 10 = .ok (.invokevirtual 70, 3) := by decide +kernel
theorem d_Model_isLetter_13 : decode b_Model_isLetter 13 = .ok (.ifCond .eq 7, 3) := by decide +kernel
theorem d_Model_isLetter_16 : decode b_Model_isLetter 16 = .ok (.iconst 1, 1) := by decide +kernel
theorem d_Model_isLetter_17 : decode b_Model_isLetter 17 = .ok (.goto 4, 3) := by decide +kernel
theorem d_Model_isLetter_20 : decode b_Model_isLetter 20 = .ok (.iconst 0, 1) := by decide +kernel
theorem d_Model_isLetter_21 : decode b_Model_isLetter 21 = .ok (.ireturn, 1) := by decide +kernel
theorem d_Model_isDigit_0 : decode b_Model_isDigit 0 = .ok (.iload_n 1, 1) := by decide +kernel
theorem d_Model_isDigit_1 : decode b_Model_isDigit 1 = .ok (.bipush 48, 2) := by decide +kernel
theorem d_Model_isDigit_3 : decode b_Model_isDigit 3 = .ok (.if_icmp .lt 13, 3) := by decide +kernel
theorem d_Model_isDigit_6 : decode b_Model_isDigit 6 = .ok (.iload_n 1, 1) := by decide +kernel
theorem d_Model_isDigit_7 : decode b_Model_isDigit 7 = .ok (.bipush 57, 2) := by decide +kernel
theorem d_Model_isDigit_9 : decode b_Model_isDigit 9 = .ok (.if_icmp .gt 7, 3) := by decide +kernel
theorem d_Model_isDigit_12 : decode b_Model_isDigit 12 = .ok (.iconst 1, 1) := by decide +kernel
theorem d_Model_isDigit_13 : decode b_Model_isDigit 13 = .ok (.goto 4, 3) := by decide +kernel
theorem d_Model_isDigit_16 : decode b_Model_isDigit 16 = .ok (.iconst 0, 1) := by decide +kernel
theorem d_Model_isDigit_17 : decode b_Model_isDigit 17 = .ok (.ireturn, 1) := by decide +kernel
theorem d_Model_small_0 : decode b_Model_small 0 = .ok (.aload_n 0, 1) := by decide +kernel
theorem d_Model_small_1 : decode b_Model_small 1 = .ok (.iload_n 1, 1) := by decide +kernel
theorem d_Model_small_2 : decode b_Model_small 2 = .ok (.invokevirtual 70, 3) := by decide +kernel
theorem d_Model_small_5 : decode b_Model_small 5 = .ok (.ifCond .eq 11, 3) := by decide +kernel
theorem d_Model_small_8 : decode b_Model_small 8 = .ok (.iload_n 1, 1) := by decide +kernel
theorem d_Model_small_9 : decode b_Model_small 9 = .ok (.bipush 32, 2) := by decide +kernel
theorem d_Model_small_11 : decode b_Model_small 11 = .ok (.iadd, 1) := by decide +kernel
theorem d_Model_small_12 : decode b_Model_small 12 = .ok (.i2c, 1) := by decide +kernel
theorem d_Model_small_13 : decode b_Model_small 13 = .ok (.goto 4, 3) := by decide +kernel
theorem d_Model_small_16 : decode b_Model_small 16 = .ok (.iload_n 1, 1) := by decide +kernel
theorem d_Model_small_17 : decode b_Model_small 17 = .ok (.ireturn, 1) := by decide +kernel
theorem d_Model_cellOf_0 : decode b_Model_cellOf 0 = .ok (.iload_n 1, 1) := by decide +kernel
theorem d_Model_cellOf_1 : decode b_Model_cellOf 1 = .ok (.tableswitch 194 97 122 #[119, 121, 123, 126, 129, 132, 135, 138, 141, 144, 147, 149, 152, 155, 158, 161, 164, 167, 170, 173, 176, 179, 182, 185, 188, 191], 119) := by decide +kernel
theorem d_Model_cellOf_120 : decode b_Model_cellOf 120 = .ok (.iconst 1, 1) := by decide +kernel
theorem d_Model_cellOf_121 : decode b_Model_cellOf 121 = .ok (.ireturn, 1) := by decide +kernel
theorem d_Model_cellOf_122 : decode b_Model_cellOf 122 = .ok (.iconst 3, 1) := by decide +kernel
theorem d_Model_cellOf_123 : decode b_Model_cellOf 123 = .ok (.ireturn, 1) := by decide +kernel
theorem d_Model_cellOf_124 : decode b_Model_cellOf 124 = .ok (.bipush 9, 2) := by decide +kernel
theorem d_Model_cellOf_126 : decode b_Model_cellOf 126 = .ok (.ireturn, 1) := by decide +kernel
theorem d_Model_cellOf_127 : decode b_Model_cellOf 127 = .ok (.bipush 25, 2) := by decide +kernel
theorem d_Model_cellOf_129 : decode b_Model_cellOf 129 = .ok (.ireturn, 1) := by decide +kernel
theorem d_Model_cellOf_130 : decode b_Model_cellOf 130 = .ok (.bipush 17, 2) := by decide +kernel
theorem d_Model_cellOf_132 : decode b_Model_cellOf 132 = .ok (.ireturn, 1) := by decide +kernel
theorem d_Model_cellOf_133 : decode b_Model_cellOf 133 = .ok (.bipush 11, 2) := by decide +kernel
theorem d_Model_cellOf_135 : decode b_Model_cellOf 135 = .ok (.ireturn, 1) := by decide +kernel
theorem d_Model_cellOf_136 : decode b_Model_cellOf 136 = .ok (.bipush 27, 2) := by decide +kernel
theorem d_Model_cellOf_138 : decode b_Model_cellOf 138 = .ok (.ireturn, 1) := by decide +kernel
theorem d_Model_cellOf_139 : decode b_Model_cellOf 139 = .ok (.bipush 19, 2) := by decide +kernel
theorem d_Model_cellOf_141 : decode b_Model_cellOf 141 = .ok (.ireturn, 1) := by decide +kernel
theorem d_Model_cellOf_142 : decode b_Model_cellOf 142 = .ok (.bipush 10, 2) := by decide +kernel
theorem d_Model_cellOf_144 : decode b_Model_cellOf 144 = .ok (.ireturn, 1) := by decide +kernel
theorem d_Model_cellOf_145 : decode b_Model_cellOf 145 = .ok (.bipush 26, 2) := by decide +kernel
theorem d_Model_cellOf_147 : decode b_Model_cellOf 147 = .ok (.ireturn, 1) := by decide +kernel
theorem d_Model_cellOf_148 : decode b_Model_cellOf 148 = .ok (.iconst 5, 1) := by decide +kernel
theorem d_Model_cellOf_149 : decode b_Model_cellOf 149 = .ok (.ireturn, 1) := by decide +kernel
theorem d_Model_cellOf_150 : decode b_Model_cellOf 150 = .ok (.bipush 7, 2) := by decide +kernel
theorem d_Model_cellOf_152 : decode b_Model_cellOf 152 = .ok (.ireturn, 1) := by decide +kernel
theorem d_Model_cellOf_153 : decode b_Model_cellOf 153 = .ok (.bipush 13, 2) := by decide +kernel
theorem d_Model_cellOf_155 : decode b_Model_cellOf 155 = .ok (.ireturn, 1) := by decide +kernel
theorem d_Model_cellOf_156 : decode b_Model_cellOf 156 = .ok (.bipush 29, 2) := by decide +kernel
theorem d_Model_cellOf_158 : decode b_Model_cellOf 158 = .ok (.ireturn, 1) := by decide +kernel
theorem d_Model_cellOf_159 : decode b_Model_cellOf 159 = .ok (.bipush 21, 2) := by decide +kernel
theorem d_Model_cellOf_161 : decode b_Model_cellOf 161 = .ok (.ireturn, 1) := by decide +kernel
theorem d_Model_cellOf_162 : decode b_Model_cellOf 162 = .ok (.bipush 15, 2) := by decide +kernel
theorem d_Model_cellOf_164 : decode b_Model_cellOf 164 = .ok (.ireturn, 1) := by decide +kernel
theorem d_Model_cellOf_165 : decode b_Model_cellOf 165 = .ok (.bipush 31, 2) := by decide +kernel
theorem d_Model_cellOf_167 : decode b_Model_cellOf 167 = .ok (.ireturn, 1) := by decide +kernel
theorem d_Model_cellOf_168 : decode b_Model_cellOf 168 = .ok (.bipush 23, 2) := by decide +kernel
theorem d_Model_cellOf_170 : decode b_Model_cellOf 170 = .ok (.ireturn, 1) := by decide +kernel
theorem d_Model_cellOf_171 : decode b_Model_cellOf 171 = .ok (.bipush 14, 2) := by decide +kernel
theorem d_Model_cellOf_173 : decode b_Model_cellOf 173 = .ok (.ireturn, 1) := by decide +kernel
theorem d_Model_cellOf_174 : decode b_Model_cellOf 174 = .ok (.bipush 30, 2) := by decide +kernel
theorem d_Model_cellOf_176 : decode b_Model_cellOf 176 = .ok (.ireturn, 1) := by decide +kernel
theorem d_Model_cellOf_177 : decode b_Model_cellOf 177 = .ok (.bipush 37, 2) := by decide +kernel
theorem d_Model_cellOf_179 : decode b_Model_cellOf 179 = .ok (.ireturn, 1) := by decide +kernel
theorem d_Model_cellOf_180 : decode b_Model_cellOf 180 = .ok (.bipush 39, 2) := by decide +kernel
theorem d_Model_cellOf_182 : decode b_Model_cellOf 182 = .ok (.ireturn, 1) := by decide +kernel
theorem d_Model_cellOf_183 : decode b_Model_cellOf 183 = .ok (.bipush 58, 2) := by decide +kernel
theorem d_Model_cellOf_185 : decode b_Model_cellOf 185 = .ok (.ireturn, 1) := by decide +kernel
theorem d_Model_cellOf_186 : decode b_Model_cellOf 186 = .ok (.bipush 45, 2) := by decide +kernel
theorem d_Model_cellOf_188 : decode b_Model_cellOf 188 = .ok (.ireturn, 1) := by decide +kernel
theorem d_Model_cellOf_189 : decode b_Model_cellOf 189 = .ok (.bipush 61, 2) := by decide +kernel
theorem d_Model_cellOf_191 : decode b_Model_cellOf 191 = .ok (.ireturn, 1) := by decide +kernel
theorem d_Model_cellOf_192 : decode b_Model_cellOf 192 = .ok (.bipush 53, 2) := by decide +kernel
theorem d_Model_cellOf_194 : decode b_Model_cellOf 194 = .ok (.ireturn, 1) := by decide +kernel
theorem d_Model_cellOf_195 : decode b_Model_cellOf 195 = .ok (.aload_n 0, 1) := by decide +kernel
theorem d_Model_cellOf_196 : decode b_Model_cellOf 196 = .ok (.iload_n 1, 1) := by decide +kernel
theorem d_Model_cellOf_197 : decode b_Model_cellOf 197 = .ok (.invokevirtual 73, 3) := by decide +kernel
theorem d_Model_cellOf_200 : decode b_Model_cellOf 200 = .ok (.ireturn, 1) := by decide +kernel
theorem d_Model_markOf_0 : decode b_Model_markOf 0 = .ok (.iload_n 1, 1) := by decide +kernel
theorem d_Model_markOf_1 : decode b_Model_markOf 1 = .ok (.lookupswitch 97 #[(33, 89), (39, 95), (44, 78), (45, 92), (46, 75), (58, 83), (59, 80), (63, 86)], 75) := by decide +kernel
theorem d_Model_markOf_76 : decode b_Model_markOf 76 = .ok (.bipush 50, 2) := by decide +kernel
theorem d_Model_markOf_78 : decode b_Model_markOf 78 = .ok (.ireturn, 1) := by decide +kernel
theorem d_Model_markOf_79 : decode b_Model_markOf 79 = .ok (.iconst 2, 1) := by decide +kernel
theorem d_Model_markOf_80 : decode b_Model_markOf 80 = .ok (.ireturn, 1) := by decide +kernel
theorem d_Model_markOf_81 : decode b_Model_markOf 81 = .ok (.bipush 6, 2) := by decide +kernel
theorem d_Model_markOf_83 : decode b_Model_markOf 83 = .ok (.ireturn, 1) := by decide +kernel
theorem d_Model_markOf_84 : decode b_Model_markOf 84 = .ok (.bipush 18, 2) := by decide +kernel
theorem d_Model_markOf_86 : decode b_Model_markOf 86 = .ok (.ireturn, 1) := by decide +kernel
theorem d_Model_markOf_87 : decode b_Model_markOf 87 = .ok (.bipush 38, 2) := by decide +kernel
theorem d_Model_markOf_89 : decode b_Model_markOf 89 = .ok (.ireturn, 1) := by decide +kernel
theorem d_Model_markOf_90 : decode b_Model_markOf 90 = .ok (.bipush 22, 2) := by decide +kernel
theorem d_Model_markOf_92 : decode b_Model_markOf 92 = .ok (.ireturn, 1) := by decide +kernel
theorem d_Model_markOf_93 : decode b_Model_markOf 93 = .ok (.bipush 36, 2) := by decide +kernel
theorem d_Model_markOf_95 : decode b_Model_markOf 95 = .ok (.ireturn, 1) := by decide +kernel
theorem d_Model_markOf_96 : decode b_Model_markOf 96 = .ok (.iconst 4, 1) := by decide +kernel
theorem d_Model_markOf_97 : decode b_Model_markOf 97 = .ok (.ireturn, 1) := by decide +kernel
theorem d_Model_markOf_98 : decode b_Model_markOf 98 = .ok (.iconst 0, 1) := by decide +kernel
theorem d_Model_markOf_99 : decode b_Model_markOf 99 = .ok (.ireturn, 1) := by decide +kernel
theorem d_Model_digitCell_0 : decode b_Model_digitCell 0 = .ok (.aload_n 0, 1) := by decide +kernel
theorem d_Model_digitCell_1 : decode b_Model_digitCell 1 = .ok (.iload_n 1, 1) := by decide +kernel
theorem d_Model_digitCell_2 : decode b_Model_digitCell 2 = .ok (.ifCond .ne 8, 3) := by decide +kernel
theorem d_Model_digitCell_5 : decode b_Model_digitCell 5 = .ok (.bipush 106, 2) := by decide +kernel
theorem d_Model_digitCell_7 : decode b_Model_digitCell 7 = .ok (.goto 9, 3) := by decide +kernel
theorem d_Model_digitCell_10 : decode b_Model_digitCell 10 = .ok (.bipush 97, 2) := by decide +kernel
theorem d_Model_digitCell_12 : decode b_Model_digitCell 12 = .ok (.iload_n 1, 1) := by decide +kernel
theorem d_Model_digitCell_13 : decode b_Model_digitCell 13 = .ok (.iadd, 1) := by decide +kernel
theorem d_Model_digitCell_14 : decode b_Model_digitCell 14 = .ok (.iconst 1, 1) := by decide +kernel
theorem d_Model_digitCell_15 : decode b_Model_digitCell 15 = .ok (.isub, 1) := by decide +kernel
theorem d_Model_digitCell_16 : decode b_Model_digitCell 16 = .ok (.i2c, 1) := by decide +kernel
theorem d_Model_digitCell_17 : decode b_Model_digitCell 17 = .ok (.invokevirtual 77, 3) := by decide +kernel
theorem d_Model_digitCell_20 : decode b_Model_digitCell 20 = .ok (.ireturn, 1) := by decide +kernel
theorem d_Model_type_0 : decode b_Model_type 0 = .ok (.aload_n 0, 1) := by decide +kernel
theorem d_Model_type_1 : decode b_Model_type 1 = .ok (.iload_n 1, 1) := by decide +kernel
theorem d_Model_type_2 : decode b_Model_type 2 = .ok (.bipush 32, 2) := by decide +kernel
theorem d_Model_type_4 : decode b_Model_type 4 = .ok (.if_icmp .lt 9, 3) := by decide +kernel
theorem d_Model_type_7 : decode b_Model_type 7 = .ok (.iload_n 1, 1) := by decide +kernel
theorem d_Model_type_8 : decode b_Model_type 8 = .ok (.bipush 126, 2) := by decide +kernel
theorem d_Model_type_10 : decode b_Model_type 10 = .ok (.if_icmp .le 7, 3) := by decide +kernel
theorem d_Model_type_13 : decode b_Model_type 13 = .ok (.iconst 1, 1) := by decide +kernel
theorem d_Model_type_14 : decode b_Model_type 14 = .ok (.goto 17, 3) := by decide +kernel
theorem d_Model_type_17 : decode b_Model_type 17 = .ok (.aload_n 0, 1) := by decide +kernel
theorem d_Model_type_18 : decode b_Model_type 18 = .ok (.getfield 80, 3) := by decide +kernel
theorem d_Model_type_21 : decode b_Model_type 21 = .ok (.bipush 80, 2) := by decide +kernel
theorem d_Model_type_23 : decode b_Model_type 23 = .ok (.if_icmp .ne 7, 3) := by decide +kernel
theorem d_Model_type_26 : decode b_Model_type 26 = .ok (.iconst 2, 1) := by decide +kernel
theorem d_Model_type_27 : decode b_Model_type 27 = .ok (.goto 4, 3) := by decide +kernel
theorem d_Model_type_30 : decode b_Model_type 30 = .ok (.iconst 0, 1) := by decide +kernel
theorem d_Model_type_31 : decode b_Model_type 31 = .ok (.putfield 63, 3) := by decide +kernel
theorem d_Model_type_34 : decode b_Model_type 34 = .ok (.aload_n 0, 1) := by decide +kernel
theorem d_Model_type_35 : decode b_Model_type 35 = .ok (.getfield 63, 3) := by decide +kernel
theorem d_Model_type_38 : decode b_Model_type 38 = .ok (.ifCond .eq 5, 3) := by decide +kernel
theorem d_Model_type_41 : decode b_Model_type 41 = .ok (.iconst 0, 1) := by decide +kernel
theorem d_Model_type_42 : decode b_Model_type 42 = .ok (.ireturn, 1) := by decide +kernel
theorem d_Model_type_43 : decode b_Model_type 43 = .ok (.aload_n 0, 1) := by decide +kernel
theorem d_Model_type_44 : decode b_Model_type 44 = .ok (.getfield 7, 3) := by decide +kernel
theorem d_Model_type_47 : decode b_Model_type 47 = .ok (.aload_n 0, 1) := by decide +kernel
theorem d_Model_type_48 : decode b_Model_type 48 = .ok (.getfield 80, 3) := by decide +kernel
theorem d_Model_type_51 : decode b_Model_type 51 = .ok (.iload_n 1, 1) := by decide +kernel
theorem d_Model_type_52 : decode b_Model_type 52 = .ok (.castore, 1) := by decide +kernel
theorem d_Model_type_53 : decode b_Model_type 53 = .ok (.aload_n 0, 1) := by decide +kernel
theorem d_Model_type_54 : decode b_Model_type 54 = .ok (.dup, 1) := by decide +kernel
theorem d_Model_type_55 : decode b_Model_type 55 = .ok (.getfield 80, 3) := by decide +kernel
theorem d_Model_type_58 : decode b_Model_type 58 = .ok (.iconst 1, 1) := by decide +kernel
theorem d_Model_type_59 : decode b_Model_type 59 = .ok (.iadd, 1) := by decide +kernel
theorem d_Model_type_60 : decode b_Model_type 60 = .ok (.putfield 80, 3) := by decide +kernel
theorem d_Model_type_63 : decode b_Model_type 63 = .ok (.aload_n 0, 1) := by decide +kernel
theorem d_Model_type_64 : decode b_Model_type 64 = .ok (.getfield 80, 3) := by decide +kernel
theorem d_Model_type_67 : decode b_Model_type 67 = .ok (.ireturn, 1) := by decide +kernel
theorem d_Model_wipe_0 : decode b_Model_wipe 0 = .ok (.aload_n 0, 1) := by decide +kernel
theorem d_Model_wipe_1 : decode b_Model_wipe 1 = .ok (.iconst 0, 1) := by decide +kernel
theorem d_Model_wipe_2 : decode b_Model_wipe 2 = .ok (.putfield 63, 3) := by decide +kernel
theorem d_Model_wipe_5 : decode b_Model_wipe 5 = .ok (.aload_n 0, 1) := by decide +kernel
theorem d_Model_wipe_6 : decode b_Model_wipe 6 = .ok (.iconst 0, 1) := by decide +kernel
theorem d_Model_wipe_7 : decode b_Model_wipe 7 = .ok (.putfield 80, 3) := by decide +kernel
theorem d_Model_wipe_10 : decode b_Model_wipe 10 = .ok (.return_, 1) := by decide +kernel
theorem d_Model_kindOf_0 : decode b_Model_kindOf 0 = .ok (.iload_n 1, 1) := by decide +kernel
theorem d_Model_kindOf_1 : decode b_Model_kindOf 1 = .ok (.bipush 119, 2) := by decide +kernel
theorem d_Model_kindOf_3 : decode b_Model_kindOf 3 = .ok (.if_icmp .ne 7, 3) := by decide +kernel
theorem d_Model_kindOf_6 : decode b_Model_kindOf 6 = .ok (.iconst 0, 1) := by decide +kernel
theorem d_Model_kindOf_7 : decode b_Model_kindOf 7 = .ok (.goto 44, 3) := by decide +kernel
theorem d_Model_kindOf_10 : decode b_Model_kindOf 10 = .ok (.iload_n 1, 1) := by decide +kernel
theorem d_Model_kindOf_11 : decode b_Model_kindOf 11 = .ok (.bipush 98, 2) := by decide +kernel
theorem d_Model_kindOf_13 : decode b_Model_kindOf 13 = .ok (.if_icmp .ne 7, 3) := by decide +kernel
theorem d_Model_kindOf_16 : decode b_Model_kindOf 16 = .ok (.iconst 1, 1) := by decide +kernel
theorem d_Model_kindOf_17 : decode b_Model_kindOf 17 = .ok (.goto 34, 3) := by decide +kernel
theorem d_Model_kindOf_20 : decode b_Model_kindOf 20 = .ok (.iload_n 1, 1) := by decide +kernel
theorem d_Model_kindOf_21 : decode b_Model_kindOf 21 = .ok (.bipush 109, 2) := by decide +kernel
theorem d_Model_kindOf_23 : decode b_Model_kindOf 23 = .ok (.if_icmp .ne 7, 3) := by decide +kernel
theorem d_Model_kindOf_26 : decode b_Model_kindOf 26 = .ok (.iconst 2, 1) := by decide +kernel
theorem d_Model_kindOf_27 : decode b_Model_kindOf 27 = .ok (.goto 24, 3) := by decide +kernel
theorem d_Model_kindOf_30 : decode b_Model_kindOf 30 = .ok (.iload_n 1, 1) := by decide +kernel
theorem d_Model_kindOf_31 : decode b_Model_kindOf 31 = .ok (.bipush 101, 2) := by decide +kernel
theorem d_Model_kindOf_33 : decode b_Model_kindOf 33 = .ok (.if_icmp .ne 7, 3) := by decide +kernel
theorem d_Model_kindOf_36 : decode b_Model_kindOf 36 = .ok (.iconst 3, 1) := by decide +kernel
theorem d_Model_kindOf_37 : decode b_Model_kindOf 37 = .ok (.goto 14, 3) := by decide +kernel
theorem d_Model_kindOf_40 : decode b_Model_kindOf 40 = .ok (.iload_n 1, 1) := by decide +kernel
theorem d_Model_kindOf_41 : decode b_Model_kindOf 41 = .ok (.bipush 97, 2) := by decide +kernel
theorem d_Model_kindOf_43 : decode b_Model_kindOf 43 = .ok (.if_icmp .ne 7, 3) := by decide +kernel
theorem d_Model_kindOf_46 : decode b_Model_kindOf 46 = .ok (.iconst 4, 1) := by decide +kernel
theorem d_Model_kindOf_47 : decode b_Model_kindOf 47 = .ok (.goto 4, 3) := by decide +kernel
theorem d_Model_kindOf_50 : decode b_Model_kindOf 50 = .ok (.iconst (-1), 1) := by decide +kernel
theorem d_Model_kindOf_51 : decode b_Model_kindOf 51 = .ok (.ireturn, 1) := by decide +kernel
theorem d_Model_readCells_0 : decode b_Model_readCells 0 = .ok (.iconst 0, 1) := by decide +kernel
theorem d_Model_readCells_1 : decode b_Model_readCells 1 = .ok (.istore_n 3, 1) := by decide +kernel
theorem d_Model_readCells_2 : decode b_Model_readCells 2 = .ok (.iconst 0, 1) := by decide +kernel
theorem d_Model_readCells_3 : decode b_Model_readCells 3 = .ok (.istore 4, 2) := by decide +kernel
theorem d_Model_readCells_5 : decode b_Model_readCells 5 = .ok (.iconst 0, 1) := by decide +kernel
theorem d_Model_readCells_6 : decode b_Model_readCells 6 = .ok (.istore 5, 2) := by decide +kernel
theorem d_Model_readCells_8 : decode b_Model_readCells 8 = .ok (.iload_n 1, 1) := by decide +kernel
theorem d_Model_readCells_9 : decode b_Model_readCells 9 = .ok (.istore 6, 2) := by decide +kernel
theorem d_Model_readCells_11 : decode b_Model_readCells 11 = .ok (.iload 6, 2) := by decide +kernel
theorem d_Model_readCells_13 : decode b_Model_readCells 13 = .ok (.iload_n 2, 1) := by decide +kernel
theorem d_Model_readCells_14 : decode b_Model_readCells 14 = .ok (.if_icmp .gt 115, 3) := by decide +kernel
theorem d_Model_readCells_17 : decode b_Model_readCells 17 = .ok (.iload 6, 2) := by decide +kernel
theorem d_Model_readCells_19 : decode b_Model_readCells 19 = .ok (.iload_n 2, 1) := by decide +kernel
theorem d_Model_readCells_20 : decode b_Model_readCells 20 = .ok (.if_icmp .eq 15, 3) := by decide +kernel
theorem d_Model_readCells_23 : decode b_Model_readCells 23 = .ok (.aload_n 0, 1) := by decide +kernel
theorem d_Model_readCells_24 : decode b_Model_readCells 24 = .ok (.getfield 7, 3) := by decide +kernel
theorem d_Model_readCells_27 : decode b_Model_readCells 27 = .ok (.iload 6, 2) := by decide +kernel
theorem d_Model_readCells_29 : decode b_Model_readCells 29 = .ok (.caload, 1) := by decide +kernel
theorem d_Model_readCells_30 : decode b_Model_readCells 30 = .ok (.bipush 45, 2) := by decide +kernel
theorem d_Model_readCells_32 : decode b_Model_readCells 32 = .ok (.if_icmp .ne 42, 3) := by decide +kernel
theorem d_Model_readCells_35 : decode b_Model_readCells 35 = .ok (.iload 4, 2) := by decide +kernel
theorem d_Model_readCells_37 : decode b_Model_readCells 37 = .ok (.ifCond .eq 8, 3) := by decide +kernel
theorem d_Model_readCells_40 : decode b_Model_readCells 40 = .ok (.iload_n 3, 1) := by decide +kernel
theorem d_Model_readCells_41 : decode b_Model_readCells 41 = .ok (.iconst 3, 1) := by decide +kernel
theorem d_Model_readCells_42 : decode b_Model_readCells 42 = .ok (.if_icmp .ne 5, 3) := by decide +kernel
theorem d_Model_readCells_45 : decode b_Model_readCells 45 = .ok (.iconst 0, 1) := by decide +kernel
theorem d_Model_readCells_46 : decode b_Model_readCells 46 = .ok (.ireturn, 1) := by decide +kernel
theorem d_Model_readCells_47 : decode b_Model_readCells 47 = .ok (.aload_n 0, 1) := by decide +kernel
theorem d_Model_readCells_48 : decode b_Model_readCells 48 = .ok (.getfield 26, 3) := by decide +kernel
theorem d_Model_readCells_51 : decode b_Model_readCells 51 = .ok (.iconst 3, 1) := by decide +kernel
theorem d_Model_readCells_52 : decode b_Model_readCells 52 = .ok (.aload_n 0, 1) := by decide +kernel
theorem d_Model_readCells_53 : decode b_Model_readCells 53 = .ok (.getfield 83, 3) := by decide +kernel
theorem d_Model_readCells_56 : decode b_Model_readCells 56 = .ok (.imul, 1) := by decide +kernel
theorem d_Model_readCells_57 : decode b_Model_readCells 57 = .ok (.iload_n 3, 1) := by decide +kernel
theorem d_Model_readCells_58 : decode b_Model_readCells 58 = .ok (.iadd, 1) := by decide +kernel
theorem d_Model_readCells_59 : decode b_Model_readCells 59 = .ok (.iload 4, 2) := by decide +kernel
theorem d_Model_readCells_61 : decode b_Model_readCells 61 = .ok (.iastore, 1) := by decide +kernel
theorem d_Model_readCells_62 : decode b_Model_readCells 62 = .ok (.iinc 3 1, 3) := by decide +kernel
theorem d_Model_readCells_65 : decode b_Model_readCells 65 = .ok (.iconst 0, 1) := by decide +kernel
theorem d_Model_readCells_66 : decode b_Model_readCells 66 = .ok (.istore 4, 2) := by decide +kernel
theorem d_Model_readCells_68 : decode b_Model_readCells 68 = .ok (.iconst 0, 1) := by decide +kernel
theorem d_Model_readCells_69 : decode b_Model_readCells 69 = .ok (.istore 5, 2) := by decide +kernel
theorem d_Model_readCells_71 : decode b_Model_readCells 71 = .ok (.goto 52, 3) := by decide +kernel
theorem d_Model_readCells_74 : decode b_Model_readCells 74 = .ok (.aload_n 0, 1) := by decide +kernel
theorem d_Model_readCells_75 : decode b_Model_readCells 75 = .ok (.getfield 7, 3) := by decide +kernel
theorem d_Model_readCells_78 : decode b_Model_readCells 78 = .ok (.iload 6, 2) := by decide +kernel
theorem d_Model_readCells_80 : decode b_Model_readCells 80 = .ok (.caload, 1) := by decide +kernel
theorem d_Model_readCells_81 : decode b_Model_readCells 81 = .ok (.bipush 48, 2) := by decide +kernel
theorem d_Model_readCells_83 : decode b_Model_readCells 83 = .ok (.isub, 1) := by decide +kernel
theorem d_Model_readCells_84 : decode b_Model_readCells 84 = .ok (.istore 7, 2) := by decide +kernel
theorem d_Model_readCells_86 : decode b_Model_readCells 86 = .ok (.iload 7, 2) := by decide +kernel
theorem d_Model_readCells_88 : decode b_Model_readCells 88 = .ok (.iconst 1, 1) := by decide +kernel
theorem d_Model_readCells_89 : decode b_Model_readCells 89 = .ok (.if_icmp .lt 17, 3) := by decide +kernel
theorem d_Model_readCells_92 : decode b_Model_readCells 92 = .ok (.iload 7, 2) := by decide +kernel
theorem d_Model_readCells_94 : decode b_Model_readCells 94 = .ok (.bipush 6, 2) := by decide +kernel
theorem d_Model_readCells_96 : decode b_Model_readCells 96 = .ok (.if_icmp .gt 10, 3) := by decide +kernel
theorem d_Model_readCells_99 : decode b_Model_readCells 99 = .ok (.iload 7, 2) := by decide +kernel
theorem d_Model_readCells_101 : decode b_Model_readCells 101 = .ok (.iload 5, 2) := by decide +kernel
theorem d_Model_readCells_103 : decode b_Model_readCells 103 = .ok (.if_icmp .gt 5, 3) := by decide +kernel
theorem d_Model_readCells_106 : decode b_Model_readCells 106 = .ok (.iconst 0, 1) := by decide +kernel
theorem d_Model_readCells_107 : decode b_Model_readCells 107 = .ok (.ireturn, 1) := by decide +kernel
theorem d_Model_readCells_108 : decode b_Model_readCells 108 = .ok (.iload 4, 2) := by decide +kernel
theorem d_Model_readCells_110 : decode b_Model_readCells 110 = .ok (.iconst 1, 1) := by decide +kernel
theorem d_Model_readCells_111 : decode b_Model_readCells 111 = .ok (.iload 7, 2) := by decide +kernel
theorem d_Model_readCells_113 : decode b_Model_readCells 113 = .ok (.iconst 1, 1) := by decide +kernel
theorem d_Model_readCells_114 : decode b_Model_readCells 114 = .ok (.isub, 1) := by decide +kernel
theorem d_Model_readCells_115 : decode b_Model_readCells 115 = .ok (.ishl, 1) := by decide +kernel
theorem d_Model_readCells_116 : decode b_Model_readCells 116 = .ok (.iadd, 1) := by decide +kernel
theorem d_Model_readCells_117 : decode b_Model_readCells 117 = .ok (.istore 4, 2) := by decide +kernel
theorem d_Model_readCells_119 : decode b_Model_readCells 119 = .ok (.iload 7, 2) := by decide +kernel
theorem d_Model_readCells_121 : decode b_Model_readCells 121 = .ok (.istore 5, 2) := by decide +kernel
theorem d_Model_readCells_123 : decode b_Model_readCells 123 = .ok (.iinc 6 1, 3) := by decide +kernel
theorem d_Model_readCells_126 : decode b_Model_readCells 126 = .ok (.goto (-115), 3) := by decide +kernel
theorem d_Model_readCells_129 : decode b_Model_readCells 129 = .ok (.aload_n 0, 1) := by decide +kernel
theorem d_Model_readCells_130 : decode b_Model_readCells 130 = .ok (.getfield 23, 3) := by decide +kernel
theorem d_Model_readCells_133 : decode b_Model_readCells 133 = .ok (.aload_n 0, 1) := by decide +kernel
theorem d_Model_readCells_134 : decode b_Model_readCells 134 = .ok (.getfield 83, 3) := by decide +kernel
theorem d_Model_readCells_137 : decode b_Model_readCells 137 = .ok (.iload_n 3, 1) := by decide +kernel
theorem d_Model_readCells_138 : decode b_Model_readCells 138 = .ok (.iastore, 1) := by decide +kernel
theorem d_Model_readCells_139 : decode b_Model_readCells 139 = .ok (.iconst 1, 1) := by decide +kernel
theorem d_Model_readCells_140 : decode b_Model_readCells 140 = .ok (.ireturn, 1) := by decide +kernel
theorem d_Model_isThere_0 : decode b_Model_isThere 0 = .ok (.iconst 0, 1) := by decide +kernel
theorem d_Model_isThere_1 : decode b_Model_isThere 1 = .ok (.istore_n 1, 1) := by decide +kernel
theorem d_Model_isThere_2 : decode b_Model_isThere 2 = .ok (.iload_n 1, 1) := by decide +kernel
theorem d_Model_isThere_3 : decode b_Model_isThere 3 = .ok (.aload_n 0, 1) := by decide +kernel
theorem d_Model_isThere_4 : decode b_Model_isThere 4 = .ok (.getfield 83, 3) := by decide +kernel
theorem d_Model_isThere_7 : decode b_Model_isThere 7 = .ok (.if_icmp .ge 116, 3) := by decide +kernel
theorem d_Model_isThere_10 : decode b_Model_isThere 10 = .ok (.aload_n 0, 1) := by decide +kernel
theorem d_Model_isThere_11 : decode b_Model_isThere 11 = .ok (.getfield 13, 3) := by decide +kernel
theorem d_Model_isThere_14 : decode b_Model_isThere 14 = .ok (.iload_n 1, 1) := by decide +kernel
theorem d_Model_isThere_15 : decode b_Model_isThere 15 = .ok (.iaload, 1) := by decide +kernel
theorem d_Model_isThere_16 : decode b_Model_isThere 16 = .ok (.aload_n 0, 1) := by decide +kernel
theorem d_Model_isThere_17 : decode b_Model_isThere 17 = .ok (.getfield 13, 3) := by decide +kernel
theorem d_Model_isThere_20 : decode b_Model_isThere 20 = .ok (.aload_n 0, 1) := by decide +kernel
theorem d_Model_isThere_21 : decode b_Model_isThere 21 = .ok (.getfield 83, 3) := by decide +kernel
theorem d_Model_isThere_24 : decode b_Model_isThere 24 = .ok (.iaload, 1) := by decide +kernel
theorem d_Model_isThere_25 : decode b_Model_isThere 25 = .ok (.if_icmp .ne 25, 3) := by decide +kernel
theorem d_Model_isThere_28 : decode b_Model_isThere 28 = .ok (.aload_n 0, 1) := by decide +kernel
theorem d_Model_isThere_29 : decode b_Model_isThere 29 = .ok (.getfield 17, 3) := by decide +kernel
theorem d_Model_isThere_32 : decode b_Model_isThere 32 = .ok (.iload_n 1, 1) := by decide +kernel
theorem d_Model_isThere_33 : decode b_Model_isThere 33 = .ok (.iaload, 1) := by decide +kernel
theorem d_Model_isThere_34 : decode b_Model_isThere 34 = .ok (.aload_n 0, 1) := by decide +kernel
theorem d_Model_isThere_35 : decode b_Model_isThere 35 = .ok (.getfield 17, 3) := by decide +kernel
theorem d_Model_isThere_38 : decode b_Model_isThere 38 = .ok (.aload_n 0, 1) := by decide +kernel
theorem d_Model_isThere_39 : decode b_Model_isThere 39 = .ok (.getfield 83, 3) := by decide +kernel
theorem d_Model_isThere_42 : decode b_Model_isThere 42 = .ok (.iaload, 1) := by decide +kernel
theorem d_Model_isThere_43 : decode b_Model_isThere 43 = .ok (.if_icmp .ne 7, 3) := by decide +kernel
theorem d_Model_isThere_46 : decode b_Model_isThere 46 = .ok (.iconst 1, 1) := by decide +kernel
theorem d_Model_isThere_47 : decode b_Model_isThere 47 = .ok (.goto 4, 3) := by decide +kernel
theorem d_Model_isThere_50 : decode b_Model_isThere 50 = .ok (.iconst 0, 1) := by decide +kernel
theorem d_Model_isThere_51 : decode b_Model_isThere 51 = .ok (.istore_n 2, 1) := by decide +kernel
theorem d_Model_isThere_52 : decode b_Model_isThere 52 = .ok (.iconst 0, 1) := by decide +kernel
theorem d_Model_isThere_53 : decode b_Model_isThere 53 = .ok (.istore_n 3, 1) := by decide +kernel
theorem d_Model_isThere_54 : decode b_Model_isThere 54 = .ok (.iload_n 3, 1) := by decide +kernel
theorem d_Model_isThere_55 : decode b_Model_isThere 55 = .ok (.aload_n 0, 1) := by decide +kernel
theorem d_Model_isThere_56 : decode b_Model_isThere 56 = .ok (.getfield 17, 3) := by decide +kernel
theorem d_Model_isThere_59 : decode b_Model_isThere 59 = .ok (.aload_n 0, 1) := by decide +kernel
theorem d_Model_isThere_60 : decode b_Model_isThere 60 = .ok (.getfield 83, 3) := by decide +kernel
theorem d_Model_isThere_63 : decode b_Model_isThere 63 = .ok (.iaload, 1) := by decide +kernel
theorem d_Model_isThere_64 : decode b_Model_isThere 64 = .ok (.if_icmp .ge 47, 3) := by decide +kernel
theorem d_Model_isThere_67 : decode b_Model_isThere 67 = .ok (.iload_n 2, 1) := by decide +kernel
theorem d_Model_isThere_68 : decode b_Model_isThere 68 = .ok (.ifCond .eq 43, 3) := by decide +kernel
theorem d_Model_isThere_71 : decode b_Model_isThere 71 = .ok (.aload_n 0, 1) := by decide +kernel
theorem d_Model_isThere_72 : decode b_Model_isThere 72 = .ok (.getfield 20, 3) := by decide +kernel
theorem d_Model_isThere_75 : decode b_Model_isThere 75 = .ok (.bipush 6, 2) := by decide +kernel
theorem d_Model_isThere_77 : decode b_Model_isThere 77 = .ok (.iload_n 1, 1) := by decide +kernel
theorem d_Model_isThere_78 : decode b_Model_isThere 78 = .ok (.imul, 1) := by decide +kernel
theorem d_Model_isThere_79 : decode b_Model_isThere 79 = .ok (.iload_n 3, 1) := by decide +kernel
theorem d_Model_isThere_80 : decode b_Model_isThere 80 = .ok (.iadd, 1) := by decide +kernel
theorem d_Model_isThere_81 : decode b_Model_isThere 81 = .ok (.caload, 1) := by decide +kernel
theorem d_Model_isThere_82 : decode b_Model_isThere 82 = .ok (.aload_n 0, 1) := by decide +kernel
theorem d_Model_isThere_83 : decode b_Model_isThere 83 = .ok (.getfield 20, 3) := by decide +kernel
theorem d_Model_isThere_86 : decode b_Model_isThere 86 = .ok (.bipush 6, 2) := by decide +kernel
theorem d_Model_isThere_88 : decode b_Model_isThere 88 = .ok (.aload_n 0, 1) := by decide +kernel
theorem d_Model_isThere_89 : decode b_Model_isThere 89 = .ok (.getfield 83, 3) := by decide +kernel
theorem d_Model_isThere_92 : decode b_Model_isThere 92 = .ok (.imul, 1) := by decide +kernel
theorem d_Model_isThere_93 : decode b_Model_isThere 93 = .ok (.iload_n 3, 1) := by decide +kernel
theorem d_Model_isThere_94 : decode b_Model_isThere 94 = .ok (.iadd, 1) := by decide +kernel
theorem d_Model_isThere_95 : decode b_Model_isThere 95 = .ok (.caload, 1) := by decide +kernel
theorem d_Model_isThere_96 : decode b_Model_isThere 96 = .ok (.if_icmp .ne 7, 3) := by decide +kernel
theorem d_Model_isThere_99 : decode b_Model_isThere 99 = .ok (.iconst 1, 1) := by decide +kernel
theorem d_Model_isThere_100 : decode b_Model_isThere 100 = .ok (.goto 4, 3) := by decide +kernel
theorem d_Model_isThere_103 : decode b_Model_isThere 103 = .ok (.iconst 0, 1) := by decide +kernel
theorem d_Model_isThere_104 : decode b_Model_isThere 104 = .ok (.istore_n 2, 1) := by decide +kernel
theorem d_Model_isThere_105 : decode b_Model_isThere 105 = .ok (.iinc 3 1, 3) := by decide +kernel
theorem d_Model_isThere_108 : decode b_Model_isThere 108 = .ok (.goto (-54), 3) := by decide +kernel
theorem d_Model_isThere_111 : decode b_Model_isThere 111 = .ok (.iload_n 2, 1) := by decide +kernel
theorem d_Model_isThere_112 : decode b_Model_isThere 112 = .ok (.ifCond .eq 5, 3) := by decide +kernel
theorem d_Model_isThere_115 : decode b_Model_isThere 115 = .ok (.iconst 1, 1) := by decide +kernel
theorem d_Model_isThere_116 : decode b_Model_isThere 116 = .ok (.ireturn, 1) := by decide +kernel
theorem d_Model_isThere_117 : decode b_Model_isThere 117 = .ok (.iinc 1 1, 3) := by decide +kernel
theorem d_Model_isThere_120 : decode b_Model_isThere 120 = .ok (.goto (-118), 3) := by decide +kernel
theorem d_Model_isThere_123 : decode b_Model_isThere 123 = .ok (.iconst 0, 1) := by decide +kernel
theorem d_Model_isThere_124 : decode b_Model_isThere 124 = .ok (.ireturn, 1) := by decide +kernel
theorem d_Model_takeRule_0 : decode b_Model_takeRule 0 = .ok (.aload_n 0, 1) := by decide +kernel
theorem d_Model_takeRule_1 : decode b_Model_takeRule 1 = .ok (.getfield 83, 3) := by decide +kernel
theorem d_Model_takeRule_4 : decode b_Model_takeRule 4 = .ok (.bipush 24, 2) := by decide +kernel
theorem d_Model_takeRule_6 : decode b_Model_takeRule 6 = .ok (.if_icmp .eq 37, 3) := by decide +kernel
theorem d_Model_takeRule_9 : decode b_Model_takeRule 9 = .ok (.iload_n 2, 1) := by decide +kernel
theorem d_Model_takeRule_10 : decode b_Model_takeRule 10 = .ok (.iload_n 1, 1) := by decide +kernel
theorem d_Model_takeRule_11 : decode b_Model_takeRule 11 = .ok (.isub, 1) := by decide +kernel
theorem d_Model_takeRule_12 : decode b_Model_takeRule 12 = .ok (.bipush 6, 2) := by decide +kernel
theorem d_Model_takeRule_14 : decode b_Model_takeRule 14 = .ok (.if_icmp .lt 29, 3) := by decide +kernel
theorem d_Model_takeRule_17 : decode b_Model_takeRule 17 = .ok (.aload_n 0, 1) := by decide +kernel
theorem d_Model_takeRule_18 : decode b_Model_takeRule 18 = .ok (.aload_n 0, 1) := by decide +kernel
theorem d_Model_takeRule_19 : decode b_Model_takeRule 19 = .ok (.getfield 7, 3) := by decide +kernel
theorem d_Model_takeRule_22 : decode b_Model_takeRule 22 = .ok (.iload_n 1, 1) := by decide +kernel
theorem d_Model_takeRule_23 : decode b_Model_takeRule 23 = .ok (.caload, 1) := by decide +kernel
theorem d_Model_takeRule_24 : decode b_Model_takeRule 24 = .ok (.invokevirtual 86, 3) := by decide +kernel
theorem d_Model_takeRule_27 : decode b_Model_takeRule 27 = .ok (.ifCond .lt 16, 3) := by decide +kernel
theorem d_Model_takeRule_30 : decode b_Model_takeRule 30 = .ok (.aload_n 0, 1) := by decide +kernel
theorem d_Model_takeRule_31 : decode b_Model_takeRule 31 = .ok (.getfield 7, 3) := by decide +kernel
theorem d_Model_takeRule_34 : decode b_Model_takeRule 34 = .ok (.iload_n 1, 1) := by decide +kernel
theorem d_Model_takeRule_35 : decode b_Model_takeRule 35 = .ok (.iconst 1, 1) := by decide +kernel
theorem d_Model_takeRule_36 : decode b_Model_takeRule 36 = .ok (.iadd, 1) := by decide +kernel
theorem d_Model_takeRule_37 : decode b_Model_takeRule 37 = .ok (.caload, 1) := by decide +kernel
theorem d_Model_takeRule_38 : decode b_Model_takeRule 38 = .ok (.bipush 32, 2) := by decide +kernel
theorem d_Model_takeRule_40 : decode b_Model_takeRule 40 = .ok (.if_icmp .eq 5, 3) := by decide +kernel
theorem d_Model_takeRule_43 : decode b_Model_takeRule 43 = .ok (.iconst 0, 1) := by decide +kernel
theorem d_Model_takeRule_44 : decode b_Model_takeRule 44 = .ok (.ireturn, 1) := by decide +kernel
theorem d_Model_takeRule_45 : decode b_Model_takeRule 45 = .ok (.iconst 0, 1) := by decide +kernel
theorem d_Model_takeRule_46 : decode b_Model_takeRule 46 = .ok (.istore_n 3, 1) := by decide +kernel
theorem d_Model_takeRule_47 : decode b_Model_takeRule 47 = .ok (.iload_n 1, 1) := by decide +kernel
theorem d_Model_takeRule_48 : decode b_Model_takeRule 48 = .ok (.iconst 2, 1) := by decide +kernel
theorem d_Model_takeRule_49 : decode b_Model_takeRule 49 = .ok (.iadd, 1) := by decide +kernel
theorem d_Model_takeRule_50 : decode b_Model_takeRule 50 = .ok (.istore 4, 2) := by decide +kernel
theorem d_Model_takeRule_52 : decode b_Model_takeRule 52 = .ok (.iload 4, 2) := by decide +kernel
theorem d_Model_takeRule_54 : decode b_Model_takeRule 54 = .ok (.iload_n 2, 1) := by decide +kernel
theorem d_Model_takeRule_55 : decode b_Model_takeRule 55 = .ok (.if_icmp .ge 53, 3) := by decide +kernel
theorem d_Model_takeRule_58 : decode b_Model_takeRule 58 = .ok (.aload_n 0, 1) := by decide +kernel
theorem d_Model_takeRule_59 : decode b_Model_takeRule 59 = .ok (.aload_n 0, 1) := by decide +kernel
theorem d_Model_takeRule_60 : decode b_Model_takeRule 60 = .ok (.getfield 7, 3) := by decide +kernel
theorem d_Model_takeRule_63 : decode b_Model_takeRule 63 = .ok (.iload 4, 2) := by decide +kernel
theorem d_Model_takeRule_65 : decode b_Model_takeRule 65 = .ok (.caload, 1) := by decide +kernel
theorem d_Model_takeRule_66 : decode b_Model_takeRule 66 = .ok (.invokevirtual 66, 3) := by decide +kernel
theorem d_Model_takeRule_69 : decode b_Model_takeRule 69 = .ok (.ifCond .eq 39, 3) := by decide +kernel
theorem d_Model_takeRule_72 : decode b_Model_takeRule 72 = .ok (.iload_n 3, 1) := by decide +kernel
theorem d_Model_takeRule_73 : decode b_Model_takeRule 73 = .ok (.bipush 6, 2) := by decide +kernel
theorem d_Model_takeRule_75 : decode b_Model_takeRule 75 = .ok (.if_icmp .ge 33, 3) := by decide +kernel
theorem d_Model_takeRule_78 : decode b_Model_takeRule 78 = .ok (.aload_n 0, 1) := by decide +kernel
theorem d_Model_takeRule_79 : decode b_Model_takeRule 79 = .ok (.getfield 20, 3) := by decide +kernel
theorem d_Model_takeRule_82 : decode b_Model_takeRule 82 = .ok (.bipush 6, 2) := by decide +kernel
theorem d_Model_takeRule_84 : decode b_Model_takeRule 84 = .ok (.aload_n 0, 1) := by decide +kernel
theorem d_Model_takeRule_85 : decode b_Model_takeRule 85 = .ok (.getfield 83, 3) := by decide +kernel
theorem d_Model_takeRule_88 : decode b_Model_takeRule 88 = .ok (.imul, 1) := by decide +kernel
theorem d_Model_takeRule_89 : decode b_Model_takeRule 89 = .ok (.iload_n 3, 1) := by decide +kernel
theorem d_Model_takeRule_90 : decode b_Model_takeRule 90 = .ok (.iadd, 1) := by decide +kernel
theorem d_Model_takeRule_91 : decode b_Model_takeRule 91 = .ok (.aload_n 0, 1) := by decide +kernel
theorem d_Model_takeRule_92 : decode b_Model_takeRule 92 = .ok (.getfield 7, 3) := by decide +kernel
theorem d_Model_takeRule_95 : decode b_Model_takeRule 95 = .ok (.iload 4, 2) := by decide +kernel
theorem d_Model_takeRule_97 : decode b_Model_takeRule 97 = .ok (.caload, 1) := by decide +kernel
theorem d_Model_takeRule_98 : decode b_Model_takeRule 98 = .ok (.castore, 1) := by decide +kernel
theorem d_Model_takeRule_99 : decode b_Model_takeRule 99 = .ok (.iinc 3 1, 3) := by decide +kernel
theorem d_Model_takeRule_102 : decode b_Model_takeRule 102 = .ok (.iinc 4 1, 3) := by decide +kernel
theorem d_Model_takeRule_105 : decode b_Model_takeRule 105 = .ok (.goto (-53), 3) := by decide +kernel
theorem d_Model_takeRule_108 : decode b_Model_takeRule 108 = .ok (.iload_n 3, 1) := by decide +kernel
theorem d_Model_takeRule_109 : decode b_Model_takeRule 109 = .ok (.iconst 2, 1) := by decide +kernel
theorem d_Model_takeRule_110 : decode b_Model_takeRule 110 = .ok (.if_icmp .lt 33, 3) := by decide +kernel
theorem d_Model_takeRule_113 : decode b_Model_takeRule 113 = .ok (.iload 4, 2) := by decide +kernel
theorem d_Model_takeRule_115 : decode b_Model_takeRule 115 = .ok (.iload_n 2, 1) := by decide +kernel
theorem d_Model_takeRule_116 : decode b_Model_takeRule 116 = .ok (.if_icmp .eq 27, 3) := by decide +kernel
theorem d_Model_takeRule_119 : decode b_Model_takeRule 119 = .ok (.aload_n 0, 1) := by decide +kernel
theorem d_Model_takeRule_120 : decode b_Model_takeRule 120 = .ok (.getfield 7, 3) := by decide +kernel
theorem d_Model_takeRule_123 : decode b_Model_takeRule 123 = .ok (.iload 4, 2) := by decide +kernel
theorem d_Model_takeRule_125 : decode b_Model_takeRule 125 = .ok (.caload, 1) := by decide +kernel
theorem d_Model_takeRule_126 : decode b_Model_takeRule 126 = .ok (.bipush 61, 2) := by decide +kernel
theorem d_Model_takeRule_128 : decode b_Model_takeRule 128 = .ok (.if_icmp .ne 15, 3) := by decide +kernel
theorem d_Model_takeRule_131 : decode b_Model_takeRule 131 = .ok (.aload_n 0, 1) := by decide +kernel
theorem d_Model_takeRule_132 : decode b_Model_takeRule 132 = .ok (.iload 4, 2) := by decide +kernel
theorem d_Model_takeRule_134 : decode b_Model_takeRule 134 = .ok (.iconst 1, 1) := by decide +kernel
theorem d_Model_takeRule_135 : decode b_Model_takeRule 135 = .ok (.iadd, 1) := by decide +kernel
theorem d_Model_takeRule_136 : decode b_Model_takeRule 136 = .ok (.iload_n 2, 1) := by decide +kernel
theorem d_Model_takeRule_137 : decode b_Model_takeRule 137 = .ok (.invokevirtual 89, 3) := by decide +kernel
theorem d_Model_takeRule_140 : decode b_Model_takeRule 140 = .ok (.ifCond .ne 5, 3) := by decide +kernel
theorem d_Model_takeRule_143 : decode b_Model_takeRule 143 = .ok (.iconst 0, 1) := by decide +kernel
theorem d_Model_takeRule_144 : decode b_Model_takeRule 144 = .ok (.ireturn, 1) := by decide +kernel
theorem d_Model_takeRule_145 : decode b_Model_takeRule 145 = .ok (.aload_n 0, 1) := by decide +kernel
theorem d_Model_takeRule_146 : decode b_Model_takeRule 146 = .ok (.getfield 13, 3) := by decide +kernel
theorem d_Model_takeRule_149 : decode b_Model_takeRule 149 = .ok (.aload_n 0, 1) := by decide +kernel
theorem d_Model_takeRule_150 : decode b_Model_takeRule 150 = .ok (.getfield 83, 3) := by decide +kernel
theorem d_Model_takeRule_153 : decode b_Model_takeRule 153 = .ok (.aload_n 0, 1) := by decide +kernel
theorem d_Model_takeRule_154 : decode b_Model_takeRule 154 = .ok (.aload_n 0, 1) := by decide +kernel
theorem d_Model_takeRule_155 : decode b_Model_takeRule 155 = .ok (.getfield 7, 3) := by decide +kernel
theorem d_Model_takeRule_158 : decode b_Model_takeRule 158 = .ok (.iload_n 1, 1) := by decide +kernel
theorem d_Model_takeRule_159 : decode b_Model_takeRule 159 = .ok (.caload, 1) := by decide +kernel
theorem d_Model_takeRule_160 : decode b_Model_takeRule 160 = .ok (.invokevirtual 86, 3) := by decide +kernel
theorem d_Model_takeRule_163 : decode b_Model_takeRule 163 = .ok (.iastore, 1) := by decide +kernel
theorem d_Model_takeRule_164 : decode b_Model_takeRule 164 = .ok (.aload_n 0, 1) := by decide +kernel
theorem d_Model_takeRule_165 : decode b_Model_takeRule 165 = .ok (.getfield 17, 3) := by decide +kernel
theorem d_Model_takeRule_168 : decode b_Model_takeRule 168 = .ok (.aload_n 0, 1) := by decide +kernel
theorem d_Model_takeRule_169 : decode b_Model_takeRule 169 = .ok (.getfield 83, 3) := by decide +kernel
theorem d_Model_takeRule_172 : decode b_Model_takeRule 172 = .ok (.iload_n 3, 1) := by decide +kernel
theorem d_Model_takeRule_173 : decode b_Model_takeRule 173 = .ok (.iastore, 1) := by decide +kernel
theorem d_Model_takeRule_174 : decode b_Model_takeRule 174 = .ok (.aload_n 0, 1) := by decide +kernel
theorem d_Model_takeRule_175 : decode b_Model_takeRule 175 = .ok (.invokevirtual 93, 3) := by decide +kernel
theorem d_Model_takeRule_178 : decode b_Model_takeRule 178 = .ok (.ifCond .eq 5, 3) := by decide +kernel
theorem d_Model_takeRule_181 : decode b_Model_takeRule 181 = .ok (.iconst 0, 1) := by decide +kernel
theorem d_Model_takeRule_182 : decode b_Model_takeRule 182 = .ok (.ireturn, 1) := by decide +kernel
theorem d_Model_takeRule_183 : decode b_Model_takeRule 183 = .ok (.aload_n 0, 1) := by decide +kernel
theorem d_Model_takeRule_184 : decode b_Model_takeRule 184 = .ok (.dup, 1) := by decide +kernel
theorem d_Model_takeRule_185 : decode b_Model_takeRule 185 = .ok (.getfield 83, 3) := by decide +kernel
theorem d_Model_takeRule_188 : decode b_Model_takeRule 188 = .ok (.iconst 1, 1) := by decide +kernel
theorem d_Model_takeRule_189 : decode b_Model_takeRule 189 = .ok (.iadd, 1) := by decide +kernel
theorem d_Model_takeRule_190 : decode b_Model_takeRule 190 = .ok (.putfield 83, 3) := by decide +kernel
theorem d_Model_takeRule_193 : decode b_Model_takeRule 193 = .ok (.iconst 1, 1) := by decide +kernel
theorem d_Model_takeRule_194 : decode b_Model_takeRule 194 = .ok (.ireturn, 1) := by decide +kernel
theorem d_Model_rules_0 : decode b_Model_rules 0 = .ok (.aload_n 0, 1) := by decide +kernel
theorem d_Model_rules_1 : decode b_Model_rules 1 = .ok (.getfield 83, 3) := by decide +kernel
theorem d_Model_rules_4 : decode b_Model_rules 4 = .ok (.istore_n 2, 1) := by decide +kernel
theorem d_Model_rules_5 : decode b_Model_rules 5 = .ok (.aload_n 0, 1) := by decide +kernel
theorem d_Model_rules_6 : decode b_Model_rules 6 = .ok (.iconst (-1), 1) := by decide +kernel
theorem d_Model_rules_7 : decode b_Model_rules 7 = .ok (.putfield 29, 3) := by decide +kernel
theorem d_Model_rules_10 : decode b_Model_rules 10 = .ok (.iconst 0, 1) := by decide +kernel
theorem d_Model_rules_11 : decode b_Model_rules 11 = .ok (.istore_n 3, 1) := by decide +kernel
theorem d_Model_rules_12 : decode b_Model_rules 12 = .ok (.iconst 0, 1) := by decide +kernel
theorem d_Model_rules_13 : decode b_Model_rules 13 = .ok (.istore 4, 2) := by decide +kernel
theorem d_Model_rules_15 : decode b_Model_rules 15 = .ok (.iconst 0, 1) := by decide +kernel
theorem d_Model_rules_16 : decode b_Model_rules 16 = .ok (.istore 5, 2) := by decide +kernel
theorem d_Model_rules_18 : decode b_Model_rules 18 = .ok (.iload 5, 2) := by decide +kernel
theorem d_Model_rules_20 : decode b_Model_rules 20 = .ok (.aload_n 0, 1) := by decide +kernel
theorem d_Model_rules_21 : decode b_Model_rules 21 = .ok (.getfield 80, 3) := by decide +kernel
theorem d_Model_rules_24 : decode b_Model_rules 24 = .ok (.if_icmp .gt 72, 3) := by decide +kernel
theorem d_Model_rules_27 : decode b_Model_rules 27 = .ok (.iload 5, 2) := by decide +kernel
theorem d_Model_rules_29 : decode b_Model_rules 29 = .ok (.aload_n 0, 1) := by decide +kernel
theorem d_Model_rules_30 : decode b_Model_rules 30 = .ok (.getfield 80, 3) := by decide +kernel
theorem d_Model_rules_33 : decode b_Model_rules 33 = .ok (.if_icmp .eq 15, 3) := by decide +kernel
theorem d_Model_rules_36 : decode b_Model_rules 36 = .ok (.aload_n 0, 1) := by decide +kernel
theorem d_Model_rules_37 : decode b_Model_rules 37 = .ok (.getfield 7, 3) := by decide +kernel
theorem d_Model_rules_40 : decode b_Model_rules 40 = .ok (.iload 5, 2) := by decide +kernel
theorem d_Model_rules_42 : decode b_Model_rules 42 = .ok (.caload, 1) := by decide +kernel
theorem d_Model_rules_43 : decode b_Model_rules 43 = .ok (.bipush 59, 2) := by decide +kernel
theorem d_Model_rules_45 : decode b_Model_rules 45 = .ok (.if_icmp .ne 45, 3) := by decide +kernel
theorem d_Model_rules_48 : decode b_Model_rules 48 = .ok (.aload_n 0, 1) := by decide +kernel
theorem d_Model_rules_49 : decode b_Model_rules 49 = .ok (.iload_n 3, 1) := by decide +kernel
theorem d_Model_rules_50 : decode b_Model_rules 50 = .ok (.iload 5, 2) := by decide +kernel
theorem d_Model_rules_52 : decode b_Model_rules 52 = .ok (.invokevirtual 97, 3) := by decide +kernel
theorem d_Model_rules_55 : decode b_Model_rules 55 = .ok (.istore 6, 2) := by decide +kernel
theorem d_Model_rules_57 : decode b_Model_rules 57 = .ok (.aload_n 0, 1) := by decide +kernel
theorem d_Model_rules_58 : decode b_Model_rules 58 = .ok (.iload 6, 2) := by decide +kernel
theorem d_Model_rules_60 : decode b_Model_rules 60 = .ok (.ifCond .ne 10, 3) := by decide +kernel
theorem d_Model_rules_63 : decode b_Model_rules 63 = .ok (.aload_n 0, 1) := by decide +kernel
theorem d_Model_rules_64 : decode b_Model_rules 64 = .ok (.getfield 29, 3) := by decide +kernel
theorem d_Model_rules_67 : decode b_Model_rules 67 = .ok (.ifCond .lt 10, 3) := by decide +kernel
theorem d_Model_rules_70 : decode b_Model_rules 70 = .ok (.aload_n 0, 1) := by decide +kernel
theorem d_Model_rules_71 : decode b_Model_rules 71 = .ok (.getfield 29, 3) := by decide +kernel
theorem d_Model_rules_74 : decode b_Model_rules 74 = .ok (.goto 5, 3) := by decide +kernel
theorem d_Model_rules_77 : decode b_Model_rules 77 = .ok (.iload 4, 2) := by decide +kernel
theorem d_Model_rules_79 : decode b_Model_rules 79 = .ok (.putfield 29, 3) := by decide +kernel
theorem d_Model_rules_82 : decode b_Model_rules 82 = .ok (.iload 5, 2) := by decide +kernel
theorem d_Model_rules_84 : decode b_Model_rules 84 = .ok (.iconst 1, 1) := by decide +kernel
theorem d_Model_rules_85 : decode b_Model_rules 85 = .ok (.iadd, 1) := by decide +kernel
theorem d_Model_rules_86 : decode b_Model_rules 86 = .ok (.istore_n 3, 1) := by decide +kernel
theorem d_Model_rules_87 : decode b_Model_rules 87 = .ok (.iinc 4 1, 3) := by decide +kernel
theorem d_Model_rules_90 : decode b_Model_rules 90 = .ok (.iinc 5 1, 3) := by decide +kernel
theorem d_Model_rules_93 : decode b_Model_rules 93 = .ok (.goto (-75), 3) := by decide +kernel
theorem d_Model_rules_96 : decode b_Model_rules 96 = .ok (.aload_n 0, 1) := by decide +kernel
theorem d_Model_rules_97 : decode b_Model_rules 97 = .ok (.aload_n 0, 1) := by decide +kernel
theorem d_Model_rules_98 : decode b_Model_rules 98 = .ok (.getfield 29, 3) := by decide +kernel
theorem d_Model_rules_101 : decode b_Model_rules 101 = .ok (.ifCond .lt 11, 3) := by decide +kernel
theorem d_Model_rules_104 : decode b_Model_rules 104 = .ok (.iload_n 1, 1) := by decide +kernel
theorem d_Model_rules_105 : decode b_Model_rules 105 = .ok (.ifCond .ne 7, 3) := by decide +kernel
theorem d_Model_rules_108 : decode b_Model_rules 108 = .ok (.iconst 1, 1) := by decide +kernel
theorem d_Model_rules_109 : decode b_Model_rules 109 = .ok (.goto 4, 3) := by decide +kernel
theorem d_Model_rules_112 : decode b_Model_rules 112 = .ok (.iconst 0, 1) := by decide +kernel
theorem d_Model_rules_113 : decode b_Model_rules 113 = .ok (.putfield 63, 3) := by decide +kernel
theorem d_Model_rules_116 : decode b_Model_rules 116 = .ok (.aload_n 0, 1) := by decide +kernel
theorem d_Model_rules_117 : decode b_Model_rules 117 = .ok (.getfield 63, 3) := by decide +kernel
theorem d_Model_rules_120 : decode b_Model_rules 120 = .ok (.ifCond .eq 10, 3) := by decide +kernel
theorem d_Model_rules_123 : decode b_Model_rules 123 = .ok (.aload_n 0, 1) := by decide +kernel
theorem d_Model_rules_124 : decode b_Model_rules 124 = .ok (.iload_n 2, 1) := by decide +kernel
theorem d_Model_rules_125 : decode b_Model_rules 125 = .ok (.putfield 83, 3) := by decide +kernel
theorem d_Model_rules_128 : decode b_Model_rules 128 = .ok (.iconst 0, 1) := by decide +kernel
theorem d_Model_rules_129 : decode b_Model_rules 129 = .ok (.ireturn, 1) := by decide +kernel
theorem d_Model_rules_130 : decode b_Model_rules 130 = .ok (.aload_n 0, 1) := by decide +kernel
theorem d_Model_rules_131 : decode b_Model_rules 131 = .ok (.iconst 0, 1) := by decide +kernel
theorem d_Model_rules_132 : decode b_Model_rules 132 = .ok (.putfield 80, 3) := by decide +kernel
theorem d_Model_rules_135 : decode b_Model_rules 135 = .ok (.aload_n 0, 1) := by decide +kernel
theorem d_Model_rules_136 : decode b_Model_rules 136 = .ok (.getfield 83, 3) := by decide +kernel
theorem d_Model_rules_139 : decode b_Model_rules 139 = .ok (.ireturn, 1) := by decide +kernel
theorem d_Model_wrong_0 : decode b_Model_wrong 0 = .ok (.aload_n 0, 1) := by decide +kernel
theorem d_Model_wrong_1 : decode b_Model_wrong 1 = .ok (.iconst 0, 1) := by decide +kernel
theorem d_Model_wrong_2 : decode b_Model_wrong 2 = .ok (.putfield 63, 3) := by decide +kernel
theorem d_Model_wrong_5 : decode b_Model_wrong 5 = .ok (.aload_n 0, 1) := by decide +kernel
theorem d_Model_wrong_6 : decode b_Model_wrong 6 = .ok (.getfield 29, 3) := by decide +kernel
theorem d_Model_wrong_9 : decode b_Model_wrong 9 = .ok (.ireturn, 1) := by decide +kernel
theorem d_Model_applies_0 : decode b_Model_applies 0 = .ok (.iload_n 2, 1) := by decide +kernel
theorem d_Model_applies_1 : decode b_Model_applies 1 = .ok (.iload 4, 2) := by decide +kernel
theorem d_Model_applies_3 : decode b_Model_applies 3 = .ok (.if_icmp .ne 7, 3) := by decide +kernel
theorem d_Model_applies_6 : decode b_Model_applies 6 = .ok (.iconst 1, 1) := by decide +kernel
theorem d_Model_applies_7 : decode b_Model_applies 7 = .ok (.goto 4, 3) := by decide +kernel
theorem d_Model_applies_10 : decode b_Model_applies 10 = .ok (.iconst 0, 1) := by decide +kernel
theorem d_Model_applies_11 : decode b_Model_applies 11 = .ok (.istore 6, 2) := by decide +kernel
theorem d_Model_applies_13 : decode b_Model_applies 13 = .ok (.iload_n 2, 1) := by decide +kernel
theorem d_Model_applies_14 : decode b_Model_applies 14 = .ok (.iload_n 3, 1) := by decide +kernel
theorem d_Model_applies_15 : decode b_Model_applies 15 = .ok (.iadd, 1) := by decide +kernel
theorem d_Model_applies_16 : decode b_Model_applies 16 = .ok (.iload 5, 2) := by decide +kernel
theorem d_Model_applies_18 : decode b_Model_applies 18 = .ok (.if_icmp .ge 7, 3) := by decide +kernel
theorem d_Model_applies_21 : decode b_Model_applies 21 = .ok (.iconst 1, 1) := by decide +kernel
theorem d_Model_applies_22 : decode b_Model_applies 22 = .ok (.goto 4, 3) := by decide +kernel
theorem d_Model_applies_25 : decode b_Model_applies 25 = .ok (.iconst 0, 1) := by decide +kernel
theorem d_Model_applies_26 : decode b_Model_applies 26 = .ok (.istore 7, 2) := by decide +kernel
theorem d_Model_applies_28 : decode b_Model_applies 28 = .ok (.iload_n 1, 1) := by decide +kernel
theorem d_Model_applies_29 : decode b_Model_applies 29 = .ok (.iconst 4, 1) := by decide +kernel
theorem d_Model_applies_30 : decode b_Model_applies 30 = .ok (.if_icmp .eq 62, 3) := by decide +kernel
theorem d_Model_applies_33 : decode b_Model_applies 33 = .ok (.iload_n 1, 1) := by decide +kernel
theorem d_Model_applies_34 : decode b_Model_applies 34 = .ok (.ifCond .ne 13, 3) := by decide +kernel
theorem d_Model_applies_37 : decode b_Model_applies 37 = .ok (.iload 6, 2) := by decide +kernel
theorem d_Model_applies_39 : decode b_Model_applies 39 = .ok (.ifCond .eq 8, 3) := by decide +kernel
theorem d_Model_applies_42 : decode b_Model_applies 42 = .ok (.iload 7, 2) := by decide +kernel
theorem d_Model_applies_44 : decode b_Model_applies 44 = .ok (.ifCond .eq 48, 3) := by decide +kernel
theorem d_Model_applies_47 : decode b_Model_applies 47 = .ok (.iload_n 1, 1) := by decide +kernel
theorem d_Model_applies_48 : decode b_Model_applies 48 = .ok (.iconst 1, 1) := by decide +kernel
theorem d_Model_applies_49 : decode b_Model_applies 49 = .ok (.if_icmp .ne 13, 3) := by decide +kernel
theorem d_Model_applies_52 : decode b_Model_applies 52 = .ok (.iload 6, 2) := by decide +kernel
theorem d_Model_applies_54 : decode b_Model_applies 54 = .ok (.ifCond .eq 8, 3) := by decide +kernel
theorem d_Model_applies_57 : decode b_Model_applies 57 = .ok (.iload 7, 2) := by decide +kernel
theorem d_Model_applies_59 : decode b_Model_applies 59 = .ok (.ifCond .ne 33, 3) := by decide +kernel
theorem d_Model_applies_62 : decode b_Model_applies 62 = .ok (.iload_n 1, 1) := by decide +kernel
theorem d_Model_applies_63 : decode b_Model_applies 63 = .ok (.iconst 2, 1) := by decide +kernel
theorem d_Model_applies_64 : decode b_Model_applies 64 = .ok (.if_icmp .ne 13, 3) := by decide +kernel
theorem d_Model_applies_67 : decode b_Model_applies 67 = .ok (.iload 6, 2) := by decide +kernel
theorem d_Model_applies_69 : decode b_Model_applies 69 = .ok (.ifCond .ne 8, 3) := by decide +kernel
theorem d_Model_applies_72 : decode b_Model_applies 72 = .ok (.iload 7, 2) := by decide +kernel
theorem d_Model_applies_74 : decode b_Model_applies 74 = .ok (.ifCond .ne 18, 3) := by decide +kernel
theorem d_Model_applies_77 : decode b_Model_applies 77 = .ok (.iload_n 1, 1) := by decide +kernel
theorem d_Model_applies_78 : decode b_Model_applies 78 = .ok (.iconst 3, 1) := by decide +kernel
theorem d_Model_applies_79 : decode b_Model_applies 79 = .ok (.if_icmp .ne 17, 3) := by decide +kernel
theorem d_Model_applies_82 : decode b_Model_applies 82 = .ok (.iload 6, 2) := by decide +kernel
theorem d_Model_applies_84 : decode b_Model_applies 84 = .ok (.ifCond .ne 12, 3) := by decide +kernel
theorem d_Model_applies_87 : decode b_Model_applies 87 = .ok (.iload 7, 2) := by decide +kernel
theorem d_Model_applies_89 : decode b_Model_applies 89 = .ok (.ifCond .ne 7, 3) := by decide +kernel
theorem d_Model_applies_92 : decode b_Model_applies 92 = .ok (.iconst 1, 1) := by decide +kernel
theorem d_Model_applies_93 : decode b_Model_applies 93 = .ok (.goto 4, 3) := by decide +kernel
theorem d_Model_applies_96 : decode b_Model_applies 96 = .ok (.iconst 0, 1) := by decide +kernel
theorem d_Model_applies_97 : decode b_Model_applies 97 = .ok (.ireturn, 1) := by decide +kernel
theorem d_Model_add_0 : decode b_Model_add 0 = .ok (.aload_n 0, 1) := by decide +kernel
theorem d_Model_add_1 : decode b_Model_add 1 = .ok (.getfield 39, 3) := by decide +kernel
theorem d_Model_add_4 : decode b_Model_add 4 = .ok (.sipush 240, 3) := by decide +kernel
theorem d_Model_add_7 : decode b_Model_add 7 = .ok (.aload_n 0, 1) := by decide +kernel
theorem d_Model_add_8 : decode b_Model_add 8 = .ok (.getfield 100, 3) := by decide +kernel
theorem d_Model_add_11 : decode b_Model_add 11 = .ok (.imul, 1) := by decide +kernel
theorem d_Model_add_12 : decode b_Model_add 12 = .ok (.aload_n 0, 1) := by decide +kernel
theorem d_Model_add_13 : decode b_Model_add 13 = .ok (.getfield 36, 3) := by decide +kernel
theorem d_Model_add_16 : decode b_Model_add 16 = .ok (.aload_n 0, 1) := by decide +kernel
theorem d_Model_add_17 : decode b_Model_add 17 = .ok (.getfield 100, 3) := by decide +kernel
theorem d_Model_add_20 : decode b_Model_add 20 = .ok (.iaload, 1) := by decide +kernel
theorem d_Model_add_21 : decode b_Model_add 21 = .ok (.iadd, 1) := by decide +kernel
theorem d_Model_add_22 : decode b_Model_add 22 = .ok (.iload_n 1, 1) := by decide +kernel
theorem d_Model_add_23 : decode b_Model_add 23 = .ok (.iastore, 1) := by decide +kernel
theorem d_Model_add_24 : decode b_Model_add 24 = .ok (.aload_n 0, 1) := by decide +kernel
theorem d_Model_add_25 : decode b_Model_add 25 = .ok (.getfield 42, 3) := by decide +kernel
theorem d_Model_add_28 : decode b_Model_add 28 = .ok (.sipush 240, 3) := by decide +kernel
theorem d_Model_add_31 : decode b_Model_add 31 = .ok (.aload_n 0, 1) := by decide +kernel
theorem d_Model_add_32 : decode b_Model_add 32 = .ok (.getfield 100, 3) := by decide +kernel
theorem d_Model_add_35 : decode b_Model_add 35 = .ok (.imul, 1) := by decide +kernel
theorem d_Model_add_36 : decode b_Model_add 36 = .ok (.aload_n 0, 1) := by decide +kernel
theorem d_Model_add_37 : decode b_Model_add 37 = .ok (.getfield 36, 3) := by decide +kernel
theorem d_Model_add_40 : decode b_Model_add 40 = .ok (.aload_n 0, 1) := by decide +kernel
theorem d_Model_add_41 : decode b_Model_add 41 = .ok (.getfield 100, 3) := by decide +kernel
theorem d_Model_add_44 : decode b_Model_add 44 = .ok (.iaload, 1) := by decide +kernel
theorem d_Model_add_45 : decode b_Model_add 45 = .ok (.iadd, 1) := by decide +kernel
theorem d_Model_add_46 : decode b_Model_add 46 = .ok (.iload_n 2, 1) := by decide +kernel
theorem d_Model_add_47 : decode b_Model_add 47 = .ok (.iastore, 1) := by decide +kernel
theorem d_Model_add_48 : decode b_Model_add 48 = .ok (.aload_n 0, 1) := by decide +kernel
theorem d_Model_add_49 : decode b_Model_add 49 = .ok (.getfield 36, 3) := by decide +kernel
theorem d_Model_add_52 : decode b_Model_add 52 = .ok (.aload_n 0, 1) := by decide +kernel
theorem d_Model_add_53 : decode b_Model_add 53 = .ok (.getfield 100, 3) := by decide +kernel
theorem d_Model_add_56 : decode b_Model_add 56 = .ok (.dup2, 1) := by decide +kernel
theorem d_Model_add_57 : decode b_Model_add 57 = .ok (.iaload, 1) := by decide +kernel
theorem d_Model_add_58 : decode b_Model_add 58 = .ok (.iconst 1, 1) := by decide +kernel
theorem d_Model_add_59 : decode b_Model_add 59 = .ok (.iadd, 1) := by decide +kernel
theorem d_Model_add_60 : decode b_Model_add 60 = .ok (.iastore, 1) := by decide +kernel
theorem d_Model_add_61 : decode b_Model_add 61 = .ok (.return_, 1) := by decide +kernel
theorem d_Model_stands_0 : decode b_Model_stands 0 = .ok (.aload_n 0, 1) := by decide +kernel
theorem d_Model_stands_1 : decode b_Model_stands 1 = .ok (.getfield 17, 3) := by decide +kernel
theorem d_Model_stands_4 : decode b_Model_stands 4 = .ok (.iload_n 1, 1) := by decide +kernel
theorem d_Model_stands_5 : decode b_Model_stands 5 = .ok (.iaload, 1) := by decide +kernel
theorem d_Model_stands_6 : decode b_Model_stands 6 = .ok (.istore 6, 2) := by decide +kernel
theorem d_Model_stands_8 : decode b_Model_stands 8 = .ok (.iload_n 2, 1) := by decide +kernel
theorem d_Model_stands_9 : decode b_Model_stands 9 = .ok (.iload 6, 2) := by decide +kernel
theorem d_Model_stands_11 : decode b_Model_stands 11 = .ok (.iadd, 1) := by decide +kernel
theorem d_Model_stands_12 : decode b_Model_stands 12 = .ok (.iload 4, 2) := by decide +kernel
theorem d_Model_stands_14 : decode b_Model_stands 14 = .ok (.if_icmp .gt 26, 3) := by decide +kernel
theorem d_Model_stands_17 : decode b_Model_stands 17 = .ok (.aload_n 0, 1) := by decide +kernel
theorem d_Model_stands_18 : decode b_Model_stands 18 = .ok (.aload_n 0, 1) := by decide +kernel
theorem d_Model_stands_19 : decode b_Model_stands 19 = .ok (.getfield 13, 3) := by decide +kernel
theorem d_Model_stands_22 : decode b_Model_stands 22 = .ok (.iload_n 1, 1) := by decide +kernel
theorem d_Model_stands_23 : decode b_Model_stands 23 = .ok (.iaload, 1) := by decide +kernel
theorem d_Model_stands_24 : decode b_Model_stands 24 = .ok (.iload_n 2, 1) := by decide +kernel
theorem d_Model_stands_25 : decode b_Model_stands 25 = .ok (.iload 6, 2) := by decide +kernel
theorem d_Model_stands_27 : decode b_Model_stands 27 = .ok (.iload_n 3, 1) := by decide +kernel
theorem d_Model_stands_28 : decode b_Model_stands 28 = .ok (.iload 4, 2) := by decide +kernel
theorem d_Model_stands_30 : decode b_Model_stands 30 = .ok (.invokevirtual 103, 3) := by decide +kernel
theorem d_Model_stands_33 : decode b_Model_stands 33 = .ok (.ifCond .eq 7, 3) := by decide +kernel
theorem d_Model_stands_36 : decode b_Model_stands 36 = .ok (.iconst 1, 1) := by decide +kernel
theorem d_Model_stands_37 : decode b_Model_stands 37 = .ok (.goto 4, 3) := by decide +kernel
theorem d_Model_stands_40 : decode b_Model_stands 40 = .ok (.iconst 0, 1) := by decide +kernel
theorem d_Model_stands_41 : decode b_Model_stands 41 = .ok (.istore 7, 2) := by decide +kernel
theorem d_Model_stands_43 : decode b_Model_stands 43 = .ok (.iconst 0, 1) := by decide +kernel
theorem d_Model_stands_44 : decode b_Model_stands 44 = .ok (.istore 8, 2) := by decide +kernel
theorem d_Model_stands_46 : decode b_Model_stands 46 = .ok (.iload 8, 2) := by decide +kernel
theorem d_Model_stands_48 : decode b_Model_stands 48 = .ok (.iload 6, 2) := by decide +kernel
theorem d_Model_stands_50 : decode b_Model_stands 50 = .ok (.if_icmp .ge 72, 3) := by decide +kernel
theorem d_Model_stands_53 : decode b_Model_stands 53 = .ok (.iload 7, 2) := by decide +kernel
theorem d_Model_stands_55 : decode b_Model_stands 55 = .ok (.ifCond .eq 67, 3) := by decide +kernel
theorem d_Model_stands_58 : decode b_Model_stands 58 = .ok (.aload_n 0, 1) := by decide +kernel
theorem d_Model_stands_59 : decode b_Model_stands 59 = .ok (.getfield 7, 3) := by decide +kernel
theorem d_Model_stands_62 : decode b_Model_stands 62 = .ok (.iload_n 2, 1) := by decide +kernel
theorem d_Model_stands_63 : decode b_Model_stands 63 = .ok (.iload 8, 2) := by decide +kernel
theorem d_Model_stands_65 : decode b_Model_stands 65 = .ok (.iadd, 1) := by decide +kernel
theorem d_Model_stands_66 : decode b_Model_stands 66 = .ok (.caload, 1) := by decide +kernel
theorem d_Model_stands_67 : decode b_Model_stands 67 = .ok (.istore 9, 2) := by decide +kernel
theorem d_Model_stands_69 : decode b_Model_stands 69 = .ok (.aload_n 0, 1) := by decide +kernel
theorem d_Model_stands_70 : decode b_Model_stands 70 = .ok (.iload 9, 2) := by decide +kernel
theorem d_Model_stands_72 : decode b_Model_stands 72 = .ok (.invokevirtual 107, 3) := by decide +kernel
theorem d_Model_stands_75 : decode b_Model_stands 75 = .ok (.aload_n 0, 1) := by decide +kernel
theorem d_Model_stands_76 : decode b_Model_stands 76 = .ok (.getfield 20, 3) := by decide +kernel
theorem d_Model_stands_79 : decode b_Model_stands 79 = .ok (.bipush 6, 2) := by decide +kernel
theorem d_Model_stands_81 : decode b_Model_stands 81 = .ok (.iload_n 1, 1) := by decide +kernel
theorem d_Model_stands_82 : decode b_Model_stands 82 = .ok (.imul, 1) := by decide +kernel
theorem d_Model_stands_83 : decode b_Model_stands 83 = .ok (.iload 8, 2) := by decide +kernel
theorem d_Model_stands_85 : decode b_Model_stands 85 = .ok (.iadd, 1) := by decide +kernel
theorem d_Model_stands_86 : decode b_Model_stands 86 = .ok (.caload, 1) := by decide +kernel
theorem d_Model_stands_87 : decode b_Model_stands 87 = .ok (.if_icmp .ne 26, 3) := by decide +kernel
theorem d_Model_stands_90 : decode b_Model_stands 90 = .ok (.iload 5, 2) := by decide +kernel
theorem d_Model_stands_92 : decode b_Model_stands 92 = .ok (.ifCond .ne 17, 3) := by decide +kernel
theorem d_Model_stands_95 : decode b_Model_stands 95 = .ok (.iload 8, 2) := by decide +kernel
theorem d_Model_stands_97 : decode b_Model_stands 97 = .ok (.ifCond .eq 12, 3) := by decide +kernel
theorem d_Model_stands_100 : decode b_Model_stands 100 = .ok (.aload_n 0, 1) := by decide +kernel
theorem d_Model_stands_101 : decode b_Model_stands 101 = .ok (.iload 9, 2) := by decide +kernel
theorem d_Model_stands_103 : decode b_Model_stands 103 = .ok (.invokevirtual 66, 3) := by decide +kernel
theorem d_Model_stands_106 : decode b_Model_stands 106 = .ok (.ifCond .eq 7, 3) := by decide +kernel
theorem d_Model_stands_109 : decode b_Model_stands 109 = .ok (.iconst 1, 1) := by decide +kernel
theorem d_Model_stands_110 : decode b_Model_stands 110 = .ok (.goto 4, 3) := by decide +kernel
theorem d_Model_stands_113 : decode b_Model_stands 113 = .ok (.iconst 0, 1) := by decide +kernel
theorem d_Model_stands_114 : decode b_Model_stands 114 = .ok (.istore 7, 2) := by decide +kernel
theorem d_Model_stands_116 : decode b_Model_stands 116 = .ok (.iinc 8 1, 3) := by decide +kernel
theorem d_Model_stands_119 : decode b_Model_stands 119 = .ok (.goto (-73), 3) := by decide +kernel
theorem d_Model_stands_122 : decode b_Model_stands 122 = .ok (.iload 7, 2) := by decide +kernel
theorem d_Model_stands_124 : decode b_Model_stands 124 = .ok (.ireturn, 1) := by decide +kernel
theorem d_Model_translateWord_0 : decode b_Model_translateWord 0 = .ok (.iload_n 2, 1) := by decide +kernel
theorem d_Model_translateWord_1 : decode b_Model_translateWord 1 = .ok (.iload_n 1, 1) := by decide +kernel
theorem d_Model_translateWord_2 : decode b_Model_translateWord 2 = .ok (.isub, 1) := by decide +kernel
theorem d_Model_translateWord_3 : decode b_Model_translateWord 3 = .ok (.iconst 1, 1) := by decide +kernel
theorem d_Model_translateWord_4 : decode b_Model_translateWord 4 = .ok (.if_icmp .le 7, 3) := by decide +kernel
theorem d_Model_translateWord_7 : decode b_Model_translateWord 7 = .ok (.iconst 1, 1) := by decide +kernel
theorem d_Model_translateWord_8 : decode b_Model_translateWord 8 = .ok (.goto 4, 3) := by decide +kernel
theorem d_Model_translateWord_11 : decode b_Model_translateWord 11 = .ok (.iconst 0, 1) := by decide +kernel
theorem d_Model_translateWord_12 : decode b_Model_translateWord 12 = .ok (.istore_n 3, 1) := by decide +kernel
theorem d_Model_translateWord_13 : decode b_Model_translateWord 13 = .ok (.iload_n 1, 1) := by decide +kernel
theorem d_Model_translateWord_14 : decode b_Model_translateWord 14 = .ok (.istore 4, 2) := by decide +kernel
theorem d_Model_translateWord_16 : decode b_Model_translateWord 16 = .ok (.iload 4, 2) := by decide +kernel
theorem d_Model_translateWord_18 : decode b_Model_translateWord 18 = .ok (.iload_n 2, 1) := by decide +kernel
theorem d_Model_translateWord_19 : decode b_Model_translateWord 19 = .ok (.if_icmp .ge 33, 3) := by decide +kernel
theorem d_Model_translateWord_22 : decode b_Model_translateWord 22 = .ok (.iload_n 3, 1) := by decide +kernel
theorem d_Model_translateWord_23 : decode b_Model_translateWord 23 = .ok (.ifCond .eq 21, 3) := by decide +kernel
theorem d_Model_translateWord_26 : decode b_Model_translateWord 26 = .ok (.aload_n 0, 1) := by decide +kernel
theorem d_Model_translateWord_27 : decode b_Model_translateWord 27 = .ok (.aload_n 0, 1) := by decide +kernel
theorem d_Model_translateWord_28 : decode b_Model_translateWord 28 = .ok (.getfield 7, 3) := by decide +kernel
theorem d_Model_translateWord_31 : decode b_Model_translateWord 31 = .ok (.iload 4, 2) := by decide +kernel
theorem d_Model_translateWord_33 : decode b_Model_translateWord 33 = .ok (.caload, 1) := by decide +kernel
theorem d_Model_translateWord_34 : decode b_Model_translateWord 34 = .ok (.invokevirtual 70, 3) := by decide +kernel
theorem d_Model_translateWord_37 : decode b_Model_translateWord 37 = .ok (.ifCond .eq 7, 3) := by decide +kernel
theorem d_Model_translateWord_40 : decode b_Model_translateWord 40 = .ok (.iconst 1, 1) := by decide +kernel
theorem d_Model_translateWord_41 : decode b_Model_translateWord 41 = .ok (.goto 4, 3) := by decide +kernel
theorem d_Model_translateWord_44 : decode b_Model_translateWord 44 = .ok (.iconst 0, 1) := by decide +kernel
theorem d_Model_translateWord_45 : decode b_Model_translateWord 45 = .ok (.istore_n 3, 1) := by decide +kernel
theorem d_Model_translateWord_46 : decode b_Model_translateWord 46 = .ok (.iinc 4 1, 3) := by decide +kernel
theorem d_Model_translateWord_49 : decode b_Model_translateWord 49 = .ok (.goto (-33), 3) := by decide +kernel
theorem d_Model_translateWord_52 : decode b_Model_translateWord 52 = .ok (.iload_n 3, 1) := by decide +kernel
theorem d_Model_translateWord_53 : decode b_Model_translateWord 53 = .ok (.ifCond .eq 17, 3) := by decide +kernel
theorem d_Model_translateWord_56 : decode b_Model_translateWord 56 = .ok (.aload_n 0, 1) := by decide +kernel
theorem d_Model_translateWord_57 : decode b_Model_translateWord 57 = .ok (.bipush 32, 2) := by decide +kernel
theorem d_Model_translateWord_59 : decode b_Model_translateWord 59 = .ok (.iload_n 1, 1) := by decide +kernel
theorem d_Model_translateWord_60 : decode b_Model_translateWord 60 = .ok (.invokevirtual 111, 3) := by decide +kernel
theorem d_Model_translateWord_63 : decode b_Model_translateWord 63 = .ok (.aload_n 0, 1) := by decide +kernel
theorem d_Model_translateWord_64 : decode b_Model_translateWord 64 = .ok (.bipush 32, 2) := by decide +kernel
theorem d_Model_translateWord_66 : decode b_Model_translateWord 66 = .ok (.iload_n 1, 1) := by decide +kernel
theorem d_Model_translateWord_67 : decode b_Model_translateWord 67 = .ok (.invokevirtual 111, 3) := by decide +kernel
theorem d_Model_translateWord_70 : decode b_Model_translateWord 70 = .ok (.iload_n 1, 1) := by decide +kernel
theorem d_Model_translateWord_71 : decode b_Model_translateWord 71 = .ok (.istore 4, 2) := by decide +kernel
theorem d_Model_translateWord_73 : decode b_Model_translateWord 73 = .ok (.iload 4, 2) := by decide +kernel
theorem d_Model_translateWord_75 : decode b_Model_translateWord 75 = .ok (.iload_n 2, 1) := by decide +kernel
theorem d_Model_translateWord_76 : decode b_Model_translateWord 76 = .ok (.if_icmp .ge 227, 3) := by decide +kernel
theorem d_Model_translateWord_79 : decode b_Model_translateWord 79 = .ok (.iload_n 3, 1) := by decide +kernel
theorem d_Model_translateWord_80 : decode b_Model_translateWord 80 = .ok (.ifCond .ne 25, 3) := by decide +kernel
theorem d_Model_translateWord_83 : decode b_Model_translateWord 83 = .ok (.aload_n 0, 1) := by decide +kernel
theorem d_Model_translateWord_84 : decode b_Model_translateWord 84 = .ok (.aload_n 0, 1) := by decide +kernel
theorem d_Model_translateWord_85 : decode b_Model_translateWord 85 = .ok (.getfield 7, 3) := by decide +kernel
theorem d_Model_translateWord_88 : decode b_Model_translateWord 88 = .ok (.iload 4, 2) := by decide +kernel
theorem d_Model_translateWord_90 : decode b_Model_translateWord 90 = .ok (.caload, 1) := by decide +kernel
theorem d_Model_translateWord_91 : decode b_Model_translateWord 91 = .ok (.invokevirtual 70, 3) := by decide +kernel
theorem d_Model_translateWord_94 : decode b_Model_translateWord 94 = .ok (.ifCond .eq 11, 3) := by decide +kernel
theorem d_Model_translateWord_97 : decode b_Model_translateWord 97 = .ok (.aload_n 0, 1) := by decide +kernel
theorem d_Model_translateWord_98 : decode b_Model_translateWord 98 = .ok (.bipush 32, 2) := by decide +kernel
theorem d_Model_translateWord_100 : decode b_Model_translateWord 100 = .ok (.iload 4, 2) := by decide +kernel
theorem d_Model_translateWord_102 : decode b_Model_translateWord 102 = .ok (.invokevirtual 111, 3) := by decide +kernel
theorem d_Model_translateWord_105 : decode b_Model_translateWord 105 = .ok (.iconst (-1), 1) := by decide +kernel
theorem d_Model_translateWord_106 : decode b_Model_translateWord 106 = .ok (.istore 5, 2) := by decide +kernel
theorem d_Model_translateWord_108 : decode b_Model_translateWord 108 = .ok (.iconst 0, 1) := by decide +kernel
theorem d_Model_translateWord_109 : decode b_Model_translateWord 109 = .ok (.istore 6, 2) := by decide +kernel
theorem d_Model_translateWord_111 : decode b_Model_translateWord 111 = .ok (.iload 6, 2) := by decide +kernel
theorem d_Model_translateWord_113 : decode b_Model_translateWord 113 = .ok (.aload_n 0, 1) := by decide +kernel
theorem d_Model_translateWord_114 : decode b_Model_translateWord 114 = .ok (.getfield 83, 3) := by decide +kernel
theorem d_Model_translateWord_117 : decode b_Model_translateWord 117 = .ok (.if_icmp .ge 100, 3) := by decide +kernel
theorem d_Model_translateWord_120 : decode b_Model_translateWord 120 = .ok (.iload 5, 2) := by decide +kernel
theorem d_Model_translateWord_122 : decode b_Model_translateWord 122 = .ok (.ifCond .lt 54, 3) := by decide +kernel
theorem d_Model_translateWord_125 : decode b_Model_translateWord 125 = .ok (.aload_n 0, 1) := by decide +kernel
theorem d_Model_translateWord_126 : decode b_Model_translateWord 126 = .ok (.getfield 17, 3) := by decide +kernel
theorem d_Model_translateWord_129 : decode b_Model_translateWord 129 = .ok (.iload 6, 2) := by decide +kernel
theorem d_Model_translateWord_131 : decode b_Model_translateWord 131 = .ok (.iaload, 1) := by decide +kernel
theorem d_Model_translateWord_132 : decode b_Model_translateWord 132 = .ok (.aload_n 0, 1) := by decide +kernel
theorem d_Model_translateWord_133 : decode b_Model_translateWord 133 = .ok (.getfield 17, 3) := by decide +kernel
theorem d_Model_translateWord_136 : decode b_Model_translateWord 136 = .ok (.iload 5, 2) := by decide +kernel
theorem d_Model_translateWord_138 : decode b_Model_translateWord 138 = .ok (.iaload, 1) := by decide +kernel
theorem d_Model_translateWord_139 : decode b_Model_translateWord 139 = .ok (.if_icmp .gt 37, 3) := by decide +kernel
theorem d_Model_translateWord_142 : decode b_Model_translateWord 142 = .ok (.aload_n 0, 1) := by decide +kernel
theorem d_Model_translateWord_143 : decode b_Model_translateWord 143 = .ok (.getfield 17, 3) := by decide +kernel
theorem d_Model_translateWord_146 : decode b_Model_translateWord 146 = .ok (.iload 6, 2) := by decide +kernel
theorem d_Model_translateWord_148 : decode b_Model_translateWord 148 = .ok (.iaload, 1) := by decide +kernel
theorem d_Model_translateWord_149 : decode b_Model_translateWord 149 = .ok (.aload_n 0, 1) := by decide +kernel
theorem d_Model_translateWord_150 : decode b_Model_translateWord 150 = .ok (.getfield 17, 3) := by decide +kernel
theorem d_Model_translateWord_153 : decode b_Model_translateWord 153 = .ok (.iload 5, 2) := by decide +kernel
theorem d_Model_translateWord_155 : decode b_Model_translateWord 155 = .ok (.iaload, 1) := by decide +kernel
theorem d_Model_translateWord_156 : decode b_Model_translateWord 156 = .ok (.if_icmp .ne 24, 3) := by decide +kernel
theorem d_Model_translateWord_159 : decode b_Model_translateWord 159 = .ok (.aload_n 0, 1) := by decide +kernel
theorem d_Model_translateWord_160 : decode b_Model_translateWord 160 = .ok (.getfield 13, 3) := by decide +kernel
theorem d_Model_translateWord_163 : decode b_Model_translateWord 163 = .ok (.iload 6, 2) := by decide +kernel
theorem d_Model_translateWord_165 : decode b_Model_translateWord 165 = .ok (.iaload, 1) := by decide +kernel
theorem d_Model_translateWord_166 : decode b_Model_translateWord 166 = .ok (.aload_n 0, 1) := by decide +kernel
theorem d_Model_translateWord_167 : decode b_Model_translateWord 167 = .ok (.getfield 13, 3) := by decide +kernel
theorem d_Model_translateWord_170 : decode b_Model_translateWord 170 = .ok (.iload 5, 2) := by decide +kernel
theorem d_Model_translateWord_172 : decode b_Model_translateWord 172 = .ok (.iaload, 1) := by decide +kernel
theorem d_Model_translateWord_173 : decode b_Model_translateWord 173 = .ok (.if_icmp .ge 7, 3) := by decide +kernel
theorem d_Model_translateWord_176 : decode b_Model_translateWord 176 = .ok (.iconst 1, 1) := by decide +kernel
theorem d_Model_translateWord_177 : decode b_Model_translateWord 177 = .ok (.goto 4, 3) := by decide +kernel
theorem d_Model_translateWord_180 : decode b_Model_translateWord 180 = .ok (.iconst 0, 1) := by decide +kernel
theorem d_Model_translateWord_181 : decode b_Model_translateWord 181 = .ok (.istore 7, 2) := by decide +kernel
theorem d_Model_translateWord_183 : decode b_Model_translateWord 183 = .ok (.iload 7, 2) := by decide +kernel
theorem d_Model_translateWord_185 : decode b_Model_translateWord 185 = .ok (.ifCond .eq 22, 3) := by decide +kernel
theorem d_Model_translateWord_188 : decode b_Model_translateWord 188 = .ok (.aload_n 0, 1) := by decide +kernel
theorem d_Model_translateWord_189 : decode b_Model_translateWord 189 = .ok (.iload 6, 2) := by decide +kernel
theorem d_Model_translateWord_191 : decode b_Model_translateWord 191 = .ok (.iload 4, 2) := by decide +kernel
theorem d_Model_translateWord_193 : decode b_Model_translateWord 193 = .ok (.iload_n 1, 1) := by decide +kernel
theorem d_Model_translateWord_194 : decode b_Model_translateWord 194 = .ok (.iload_n 2, 1) := by decide +kernel
theorem d_Model_translateWord_195 : decode b_Model_translateWord 195 = .ok (.iload_n 3, 1) := by decide +kernel
theorem d_Model_translateWord_196 : decode b_Model_translateWord 196 = .ok (.invokevirtual 115, 3) := by decide +kernel
theorem d_Model_translateWord_199 : decode b_Model_translateWord 199 = .ok (.ifCond .eq 8, 3) := by decide +kernel
theorem d_Model_translateWord_202 : decode b_Model_translateWord 202 = .ok (.iload 6, 2) := by decide +kernel
theorem d_Model_translateWord_204 : decode b_Model_translateWord 204 = .ok (.goto 5, 3) := by decide +kernel
theorem d_Model_translateWord_207 : decode b_Model_translateWord 207 = .ok (.iload 5, 2) := by decide +kernel
theorem d_Model_translateWord_209 : decode b_Model_translateWord 209 = .ok (.istore 5, 2) := by decide +kernel
theorem d_Model_translateWord_211 : decode b_Model_translateWord 211 = .ok (.iinc 6 1, 3) := by decide +kernel
theorem d_Model_translateWord_214 : decode b_Model_translateWord 214 = .ok (.goto (-103), 3) := by decide +kernel
theorem d_Model_translateWord_217 : decode b_Model_translateWord 217 = .ok (.iload 5, 2) := by decide +kernel
theorem d_Model_translateWord_219 : decode b_Model_translateWord 219 = .ok (.ifCond .ge 30, 3) := by decide +kernel
theorem d_Model_translateWord_222 : decode b_Model_translateWord 222 = .ok (.aload_n 0, 1) := by decide +kernel
theorem d_Model_translateWord_223 : decode b_Model_translateWord 223 = .ok (.aload_n 0, 1) := by decide +kernel
theorem d_Model_translateWord_224 : decode b_Model_translateWord 224 = .ok (.aload_n 0, 1) := by decide +kernel
theorem d_Model_translateWord_225 : decode b_Model_translateWord 225 = .ok (.aload_n 0, 1) := by decide +kernel
theorem d_Model_translateWord_226 : decode b_Model_translateWord 226 = .ok (.getfield 7, 3) := by decide +kernel
theorem d_Model_translateWord_229 : decode b_Model_translateWord 229 = .ok (.iload 4, 2) := by decide +kernel
theorem d_Model_translateWord_231 : decode b_Model_translateWord 231 = .ok (.caload, 1) := by decide +kernel
theorem d_Model_translateWord_232 : decode b_Model_translateWord 232 = .ok (.invokevirtual 107, 3) := by decide +kernel
theorem d_Model_translateWord_235 : decode b_Model_translateWord 235 = .ok (.invokevirtual 77, 3) := by decide +kernel
theorem d_Model_translateWord_238 : decode b_Model_translateWord 238 = .ok (.iload 4, 2) := by decide +kernel
theorem d_Model_translateWord_240 : decode b_Model_translateWord 240 = .ok (.invokevirtual 111, 3) := by decide +kernel
theorem d_Model_translateWord_243 : decode b_Model_translateWord 243 = .ok (.iinc 4 1, 3) := by decide +kernel
theorem d_Model_translateWord_246 : decode b_Model_translateWord 246 = .ok (.goto 54, 3) := by decide +kernel
theorem d_Model_translateWord_249 : decode b_Model_translateWord 249 = .ok (.iconst 0, 1) := by decide +kernel
theorem d_Model_translateWord_250 : decode b_Model_translateWord 250 = .ok (.istore 6, 2) := by decide +kernel
theorem d_Model_translateWord_252 : decode b_Model_translateWord 252 = .ok (.iload 6, 2) := by decide +kernel
theorem d_Model_translateWord_254 : decode b_Model_translateWord 254 = .ok (.aload_n 0, 1) := by decide +kernel
theorem d_Model_translateWord_255 : decode b_Model_translateWord 255 = .ok (.getfield 23, 3) := by decide +kernel
theorem d_Model_translateWord_258 : decode b_Model_translateWord 258 = .ok (.iload 5, 2) := by decide +kernel
theorem d_Model_translateWord_260 : decode b_Model_translateWord 260 = .ok (.iaload, 1) := by decide +kernel
theorem d_Model_translateWord_261 : decode b_Model_translateWord 261 = .ok (.if_icmp .ge 27, 3) := by decide +kernel
theorem d_Model_translateWord_264 : decode b_Model_translateWord 264 = .ok (.aload_n 0, 1) := by decide +kernel
theorem d_Model_translateWord_265 : decode b_Model_translateWord 265 = .ok (.aload_n 0, 1) := by decide +kernel
theorem d_Model_translateWord_266 : decode b_Model_translateWord 266 = .ok (.getfield 26, 3) := by decide +kernel
theorem d_Model_translateWord_269 : decode b_Model_translateWord 269 = .ok (.iconst 3, 1) := by decide +kernel
theorem d_Model_translateWord_270 : decode b_Model_translateWord 270 = .ok (.iload 5, 2) := by decide +kernel
theorem d_Model_translateWord_272 : decode b_Model_translateWord 272 = .ok (.imul, 1) := by decide +kernel
theorem d_Model_translateWord_273 : decode b_Model_translateWord 273 = .ok (.iload 6, 2) := by decide +kernel
theorem d_Model_translateWord_275 : decode b_Model_translateWord 275 = .ok (.iadd, 1) := by decide +kernel
theorem d_Model_translateWord_276 : decode b_Model_translateWord 276 = .ok (.iaload, 1) := by decide +kernel
theorem d_Model_translateWord_277 : decode b_Model_translateWord 277 = .ok (.iload 4, 2) := by decide +kernel
theorem d_Model_translateWord_279 : decode b_Model_translateWord 279 = .ok (.invokevirtual 111, 3) := by decide +kernel
theorem d_Model_translateWord_282 : decode b_Model_translateWord 282 = .ok (.iinc 6 1, 3) := by decide +kernel
theorem d_Model_translateWord_285 : decode b_Model_translateWord 285 = .ok (.goto (-33), 3) := by decide +kernel
theorem d_Model_translateWord_288 : decode b_Model_translateWord 288 = .ok (.iload 4, 2) := by decide +kernel
theorem d_Model_translateWord_290 : decode b_Model_translateWord 290 = .ok (.aload_n 0, 1) := by decide +kernel
theorem d_Model_translateWord_291 : decode b_Model_translateWord 291 = .ok (.getfield 17, 3) := by decide +kernel
theorem d_Model_translateWord_294 : decode b_Model_translateWord 294 = .ok (.iload 5, 2) := by decide +kernel
theorem d_Model_translateWord_296 : decode b_Model_translateWord 296 = .ok (.iaload, 1) := by decide +kernel
theorem d_Model_translateWord_297 : decode b_Model_translateWord 297 = .ok (.iadd, 1) := by decide +kernel
theorem d_Model_translateWord_298 : decode b_Model_translateWord 298 = .ok (.istore 4, 2) := by decide +kernel
theorem d_Model_translateWord_300 : decode b_Model_translateWord 300 = .ok (.goto (-227), 3) := by decide +kernel
theorem d_Model_translateWord_303 : decode b_Model_translateWord 303 = .ok (.return_, 1) := by decide +kernel
theorem d_Model_translate_0 : decode b_Model_translate 0 = .ok (.iconst 0, 1) := by decide +kernel
theorem d_Model_translate_1 : decode b_Model_translate 1 = .ok (.istore_n 1, 1) := by decide +kernel
theorem d_Model_translate_2 : decode b_Model_translate 2 = .ok (.iload_n 1, 1) := by decide +kernel
theorem d_Model_translate_3 : decode b_Model_translate 3 = .ok (.aload_n 0, 1) := by decide +kernel
theorem d_Model_translate_4 : decode b_Model_translate 4 = .ok (.getfield 80, 3) := by decide +kernel
theorem d_Model_translate_7 : decode b_Model_translate 7 = .ok (.if_icmp .ge 196, 3) := by decide +kernel
theorem d_Model_translate_10 : decode b_Model_translate 10 = .ok (.iload_n 1, 1) := by decide +kernel
theorem d_Model_translate_11 : decode b_Model_translate 11 = .ok (.iconst 1, 1) := by decide +kernel
theorem d_Model_translate_12 : decode b_Model_translate 12 = .ok (.iadd, 1) := by decide +kernel
theorem d_Model_translate_13 : decode b_Model_translate 13 = .ok (.istore_n 2, 1) := by decide +kernel
theorem d_Model_translate_14 : decode b_Model_translate 14 = .ok (.aload_n 0, 1) := by decide +kernel
theorem d_Model_translate_15 : decode b_Model_translate 15 = .ok (.getfield 7, 3) := by decide +kernel
theorem d_Model_translate_18 : decode b_Model_translate 18 = .ok (.iload_n 1, 1) := by decide +kernel
theorem d_Model_translate_19 : decode b_Model_translate 19 = .ok (.caload, 1) := by decide +kernel
theorem d_Model_translate_20 : decode b_Model_translate 20 = .ok (.istore_n 3, 1) := by decide +kernel
theorem d_Model_translate_21 : decode b_Model_translate 21 = .ok (.aload_n 0, 1) := by decide +kernel
theorem d_Model_translate_22 : decode b_Model_translate 22 = .ok (.iload_n 3, 1) := by decide +kernel
theorem d_Model_translate_23 : decode b_Model_translate 23 = .ok (.invokevirtual 119, 3) := by decide +kernel
theorem d_Model_translate_26 : decode b_Model_translate 26 = .ok (.ifCond .eq 39, 3) := by decide +kernel
theorem d_Model_translate_29 : decode b_Model_translate 29 = .ok (.iload_n 2, 1) := by decide +kernel
theorem d_Model_translate_30 : decode b_Model_translate 30 = .ok (.aload_n 0, 1) := by decide +kernel
theorem d_Model_translate_31 : decode b_Model_translate 31 = .ok (.getfield 80, 3) := by decide +kernel
theorem d_Model_translate_34 : decode b_Model_translate 34 = .ok (.if_icmp .ge 22, 3) := by decide +kernel
theorem d_Model_translate_37 : decode b_Model_translate 37 = .ok (.aload_n 0, 1) := by decide +kernel
theorem d_Model_translate_38 : decode b_Model_translate 38 = .ok (.aload_n 0, 1) := by decide +kernel
theorem d_Model_translate_39 : decode b_Model_translate 39 = .ok (.getfield 7, 3) := by decide +kernel
theorem d_Model_translate_42 : decode b_Model_translate 42 = .ok (.iload_n 2, 1) := by decide +kernel
theorem d_Model_translate_43 : decode b_Model_translate 43 = .ok (.caload, 1) := by decide +kernel
theorem d_Model_translate_44 : decode b_Model_translate 44 = .ok (.invokevirtual 119, 3) := by decide +kernel
theorem d_Model_translate_47 : decode b_Model_translate 47 = .ok (.ifCond .eq 9, 3) := by decide +kernel
theorem d_Model_translate_50 : decode b_Model_translate 50 = .ok (.iinc 2 1, 3) := by decide +kernel
theorem d_Model_translate_53 : decode b_Model_translate 53 = .ok (.goto (-24), 3) := by decide +kernel
theorem d_Model_translate_56 : decode b_Model_translate 56 = .ok (.aload_n 0, 1) := by decide +kernel
theorem d_Model_translate_57 : decode b_Model_translate 57 = .ok (.iload_n 1, 1) := by decide +kernel
theorem d_Model_translate_58 : decode b_Model_translate 58 = .ok (.iload_n 2, 1) := by decide +kernel
theorem d_Model_translate_59 : decode b_Model_translate 59 = .ok (.invokevirtual 122, 3) := by decide +kernel
theorem d_Model_translate_62 : decode b_Model_translate 62 = .ok (.goto 136, 3) := by decide +kernel
theorem d_Model_translate_65 : decode b_Model_translate 65 = .ok (.aload_n 0, 1) := by decide +kernel
theorem d_Model_translate_66 : decode b_Model_translate 66 = .ok (.iload_n 3, 1) := by decide +kernel
theorem d_Model_translate_67 : decode b_Model_translate 67 = .ok (.invokevirtual 125, 3) := by decide +kernel
theorem d_Model_translate_70 : decode b_Model_translate 70 = .ok (.ifCond .eq 108, 3) := by decide +kernel
theorem d_Model_translate_73 : decode b_Model_translate 73 = .ok (.aload_n 0, 1) := by decide +kernel
theorem d_Model_translate_74 : decode b_Model_translate 74 = .ok (.bipush 60, 2) := by decide +kernel
theorem d_Model_translate_76 : decode b_Model_translate 76 = .ok (.iload_n 1, 1) := by decide +kernel
theorem d_Model_translate_77 : decode b_Model_translate 77 = .ok (.invokevirtual 111, 3) := by decide +kernel
theorem d_Model_translate_80 : decode b_Model_translate 80 = .ok (.aload_n 0, 1) := by decide +kernel
theorem d_Model_translate_81 : decode b_Model_translate 81 = .ok (.aload_n 0, 1) := by decide +kernel
theorem d_Model_translate_82 : decode b_Model_translate 82 = .ok (.iload_n 3, 1) := by decide +kernel
theorem d_Model_translate_83 : decode b_Model_translate 83 = .ok (.bipush 48, 2) := by decide +kernel
theorem d_Model_translate_85 : decode b_Model_translate 85 = .ok (.isub, 1) := by decide +kernel
theorem d_Model_translate_86 : decode b_Model_translate 86 = .ok (.invokevirtual 128, 3) := by decide +kernel
theorem d_Model_translate_89 : decode b_Model_translate 89 = .ok (.iload_n 1, 1) := by decide +kernel
theorem d_Model_translate_90 : decode b_Model_translate 90 = .ok (.invokevirtual 111, 3) := by decide +kernel
theorem d_Model_translate_93 : decode b_Model_translate 93 = .ok (.iload_n 2, 1) := by decide +kernel
theorem d_Model_translate_94 : decode b_Model_translate 94 = .ok (.aload_n 0, 1) := by decide +kernel
theorem d_Model_translate_95 : decode b_Model_translate 95 = .ok (.getfield 80, 3) := by decide +kernel
theorem d_Model_translate_98 : decode b_Model_translate 98 = .ok (.if_icmp .ge 40, 3) := by decide +kernel
theorem d_Model_translate_101 : decode b_Model_translate 101 = .ok (.aload_n 0, 1) := by decide +kernel
theorem d_Model_translate_102 : decode b_Model_translate 102 = .ok (.aload_n 0, 1) := by decide +kernel
theorem d_Model_translate_103 : decode b_Model_translate 103 = .ok (.getfield 7, 3) := by decide +kernel
theorem d_Model_translate_106 : decode b_Model_translate 106 = .ok (.iload_n 2, 1) := by decide +kernel
theorem d_Model_translate_107 : decode b_Model_translate 107 = .ok (.caload, 1) := by decide +kernel
theorem d_Model_translate_108 : decode b_Model_translate 108 = .ok (.invokevirtual 125, 3) := by decide +kernel
theorem d_Model_translate_111 : decode b_Model_translate 111 = .ok (.ifCond .eq 27, 3) := by decide +kernel
theorem d_Model_translate_114 : decode b_Model_translate 114 = .ok (.aload_n 0, 1) := by decide +kernel
theorem d_Model_translate_115 : decode b_Model_translate 115 = .ok (.aload_n 0, 1) := by decide +kernel
theorem d_Model_translate_116 : decode b_Model_translate 116 = .ok (.aload_n 0, 1) := by decide +kernel
theorem d_Model_translate_117 : decode b_Model_translate 117 = .ok (.getfield 7, 3) := by decide +kernel
theorem d_Model_translate_120 : decode b_Model_translate 120 = .ok (.iload_n 2, 1) := by decide +kernel
theorem d_Model_translate_121 : decode b_Model_translate 121 = .ok (.caload, 1) := by decide +kernel
theorem d_Model_translate_122 : decode b_Model_translate 122 = .ok (.bipush 48, 2) := by decide +kernel
theorem d_Model_translate_124 : decode b_Model_translate 124 = .ok (.isub, 1) := by decide +kernel
theorem d_Model_translate_125 : decode b_Model_translate 125 = .ok (.invokevirtual 128, 3) := by decide +kernel
theorem d_Model_translate_128 : decode b_Model_translate 128 = .ok (.iload_n 2, 1) := by decide +kernel
theorem d_Model_translate_129 : decode b_Model_translate 129 = .ok (.invokevirtual 111, 3) := by decide +kernel
theorem d_Model_translate_132 : decode b_Model_translate 132 = .ok (.iinc 2 1, 3) := by decide +kernel
theorem d_Model_translate_135 : decode b_Model_translate 135 = .ok (.goto (-42), 3) := by decide +kernel
theorem d_Model_translate_138 : decode b_Model_translate 138 = .ok (.iload_n 2, 1) := by decide +kernel
theorem d_Model_translate_139 : decode b_Model_translate 139 = .ok (.aload_n 0, 1) := by decide +kernel
theorem d_Model_translate_140 : decode b_Model_translate 140 = .ok (.getfield 80, 3) := by decide +kernel
theorem d_Model_translate_143 : decode b_Model_translate 143 = .ok (.if_icmp .ge 55, 3) := by decide +kernel
theorem d_Model_translate_146 : decode b_Model_translate 146 = .ok (.aload_n 0, 1) := by decide +kernel
theorem d_Model_translate_147 : decode b_Model_translate 147 = .ok (.getfield 7, 3) := by decide +kernel
theorem d_Model_translate_150 : decode b_Model_translate 150 = .ok (.iload_n 2, 1) := by decide +kernel
theorem d_Model_translate_151 : decode b_Model_translate 151 = .ok (.caload, 1) := by decide +kernel
theorem d_Model_translate_152 : decode b_Model_translate 152 = .ok (.bipush 97, 2) := by decide +kernel
theorem d_Model_translate_154 : decode b_Model_translate 154 = .ok (.if_icmp .lt 44, 3) := by decide +kernel
theorem d_Model_translate_157 : decode b_Model_translate 157 = .ok (.aload_n 0, 1) := by decide +kernel
theorem d_Model_translate_158 : decode b_Model_translate 158 = .ok (.getfield 7, 3) := by decide +kernel
theorem d_Model_translate_161 : decode b_Model_translate 161 = .ok (.iload_n 2, 1) := by decide +kernel
theorem d_Model_translate_162 : decode b_Model_translate 162 = .ok (.caload, 1) := by decide +kernel
theorem d_Model_translate_163 : decode b_Model_translate 163 = .ok (.bipush 106, 2) := by decide +kernel
theorem d_Model_translate_165 : decode b_Model_translate 165 = .ok (.if_icmp .gt 33, 3) := by decide +kernel
theorem d_Model_translate_168 : decode b_Model_translate 168 = .ok (.aload_n 0, 1) := by decide +kernel
theorem d_Model_translate_169 : decode b_Model_translate 169 = .ok (.bipush 48, 2) := by decide +kernel
theorem d_Model_translate_171 : decode b_Model_translate 171 = .ok (.iload_n 2, 1) := by decide +kernel
theorem d_Model_translate_172 : decode b_Model_translate 172 = .ok (.invokevirtual 111, 3) := by decide +kernel
theorem d_Model_translate_175 : decode b_Model_translate 175 = .ok (.goto 23, 3) := by decide +kernel
theorem d_Model_translate_178 : decode b_Model_translate 178 = .ok (.aload_n 0, 1) := by decide +kernel
theorem d_Model_translate_179 : decode b_Model_translate 179 = .ok (.iload_n 3, 1) := by decide +kernel
theorem d_Model_translate_180 : decode b_Model_translate 180 = .ok (.bipush 32, 2) := by decide +kernel
theorem d_Model_translate_182 : decode b_Model_translate 182 = .ok (.if_icmp .ne 7, 3) := by decide +kernel
theorem d_Model_translate_185 : decode b_Model_translate 185 = .ok (.iconst 0, 1) := by decide +kernel
theorem d_Model_translate_186 : decode b_Model_translate 186 = .ok (.goto 8, 3) := by decide +kernel
theorem d_Model_translate_189 : decode b_Model_translate 189 = .ok (.aload_n 0, 1) := by decide +kernel
theorem d_Model_translate_190 : decode b_Model_translate 190 = .ok (.iload_n 3, 1) := by decide +kernel
theorem d_Model_translate_191 : decode b_Model_translate 191 = .ok (.invokevirtual 73, 3) := by decide +kernel
theorem d_Model_translate_194 : decode b_Model_translate 194 = .ok (.iload_n 1, 1) := by decide +kernel
theorem d_Model_translate_195 : decode b_Model_translate 195 = .ok (.invokevirtual 111, 3) := by decide +kernel
theorem d_Model_translate_198 : decode b_Model_translate 198 = .ok (.iload_n 2, 1) := by decide +kernel
theorem d_Model_translate_199 : decode b_Model_translate 199 = .ok (.istore_n 1, 1) := by decide +kernel
theorem d_Model_translate_200 : decode b_Model_translate 200 = .ok (.goto (-198), 3) := by decide +kernel
theorem d_Model_translate_203 : decode b_Model_translate 203 = .ok (.return_, 1) := by decide +kernel
theorem d_Model_block_0 : decode b_Model_block 0 = .ok (.iload_n 1, 1) := by decide +kernel
theorem d_Model_block_1 : decode b_Model_block 1 = .ok (.ifCond .lt 12, 3) := by decide +kernel
theorem d_Model_block_4 : decode b_Model_block 4 = .ok (.iload_n 1, 1) := by decide +kernel
theorem d_Model_block_5 : decode b_Model_block 5 = .ok (.iconst 3, 1) := by decide +kernel
theorem d_Model_block_6 : decode b_Model_block 6 = .ok (.if_icmp .gt 7, 3) := by decide +kernel
theorem d_Model_block_9 : decode b_Model_block 9 = .ok (.iconst 1, 1) := by decide +kernel
theorem d_Model_block_10 : decode b_Model_block 10 = .ok (.goto 4, 3) := by decide +kernel
theorem d_Model_block_13 : decode b_Model_block 13 = .ok (.iconst 0, 1) := by decide +kernel
theorem d_Model_block_14 : decode b_Model_block 14 = .ok (.istore_n 2, 1) := by decide +kernel
theorem d_Model_block_15 : decode b_Model_block 15 = .ok (.iconst 0, 1) := by decide +kernel
theorem d_Model_block_16 : decode b_Model_block 16 = .ok (.istore_n 3, 1) := by decide +kernel
theorem d_Model_block_17 : decode b_Model_block 17 = .ok (.iload_n 3, 1) := by decide +kernel
theorem d_Model_block_18 : decode b_Model_block 18 = .ok (.aload_n 0, 1) := by decide +kernel
theorem d_Model_block_19 : decode b_Model_block 19 = .ok (.getfield 80, 3) := by decide +kernel
theorem d_Model_block_22 : decode b_Model_block 22 = .ok (.if_icmp .ge 61, 3) := by decide +kernel
theorem d_Model_block_25 : decode b_Model_block 25 = .ok (.aload_n 0, 1) := by decide +kernel
theorem d_Model_block_26 : decode b_Model_block 26 = .ok (.getfield 7, 3) := by decide +kernel
theorem d_Model_block_29 : decode b_Model_block 29 = .ok (.iload_n 3, 1) := by decide +kernel
theorem d_Model_block_30 : decode b_Model_block 30 = .ok (.caload, 1) := by decide +kernel
theorem d_Model_block_31 : decode b_Model_block 31 = .ok (.istore 4, 2) := by decide +kernel
theorem d_Model_block_33 : decode b_Model_block 33 = .ok (.iload_n 2, 1) := by decide +kernel
theorem d_Model_block_34 : decode b_Model_block 34 = .ok (.ifCond .eq 41, 3) := by decide +kernel
theorem d_Model_block_37 : decode b_Model_block 37 = .ok (.aload_n 0, 1) := by decide +kernel
theorem d_Model_block_38 : decode b_Model_block 38 = .ok (.iload 4, 2) := by decide +kernel
theorem d_Model_block_40 : decode b_Model_block 40 = .ok (.invokevirtual 119, 3) := by decide +kernel
theorem d_Model_block_43 : decode b_Model_block 43 = .ok (.ifCond .ne 28, 3) := by decide +kernel
theorem d_Model_block_46 : decode b_Model_block 46 = .ok (.aload_n 0, 1) := by decide +kernel
theorem d_Model_block_47 : decode b_Model_block 47 = .ok (.iload 4, 2) := by decide +kernel
theorem d_Model_block_49 : decode b_Model_block 49 = .ok (.invokevirtual 125, 3) := by decide +kernel
theorem d_Model_block_52 : decode b_Model_block 52 = .ok (.ifCond .ne 19, 3) := by decide +kernel
theorem d_Model_block_55 : decode b_Model_block 55 = .ok (.iload 4, 2) := by decide +kernel
theorem d_Model_block_57 : decode b_Model_block 57 = .ok (.bipush 32, 2) := by decide +kernel
theorem d_Model_block_59 : decode b_Model_block 59 = .ok (.if_icmp .eq 12, 3) := by decide +kernel
theorem d_Model_block_62 : decode b_Model_block 62 = .ok (.aload_n 0, 1) := by decide +kernel
theorem d_Model_block_63 : decode b_Model_block 63 = .ok (.iload 4, 2) := by decide +kernel
theorem d_Model_block_65 : decode b_Model_block 65 = .ok (.invokevirtual 73, 3) := by decide +kernel
theorem d_Model_block_68 : decode b_Model_block 68 = .ok (.ifCond .le 7, 3) := by decide +kernel
theorem d_Model_block_71 : decode b_Model_block 71 = .ok (.iconst 1, 1) := by decide +kernel
theorem d_Model_block_72 : decode b_Model_block 72 = .ok (.goto 4, 3) := by decide +kernel
theorem d_Model_block_75 : decode b_Model_block 75 = .ok (.iconst 0, 1) := by decide +kernel
theorem d_Model_block_76 : decode b_Model_block 76 = .ok (.istore_n 2, 1) := by decide +kernel
theorem d_Model_block_77 : decode b_Model_block 77 = .ok (.iinc 3 1, 3) := by decide +kernel
theorem d_Model_block_80 : decode b_Model_block 80 = .ok (.goto (-63), 3) := by decide +kernel
theorem d_Model_block_83 : decode b_Model_block 83 = .ok (.aload_n 0, 1) := by decide +kernel
theorem d_Model_block_84 : decode b_Model_block 84 = .ok (.iload_n 2, 1) := by decide +kernel
theorem d_Model_block_85 : decode b_Model_block 85 = .ok (.ifCond .ne 7, 3) := by decide +kernel
theorem d_Model_block_88 : decode b_Model_block 88 = .ok (.iconst 1, 1) := by decide +kernel
theorem d_Model_block_89 : decode b_Model_block 89 = .ok (.goto 17, 3) := by decide +kernel
theorem d_Model_block_92 : decode b_Model_block 92 = .ok (.aload_n 0, 1) := by decide +kernel
theorem d_Model_block_93 : decode b_Model_block 93 = .ok (.getfield 100, 3) := by decide +kernel
theorem d_Model_block_96 : decode b_Model_block 96 = .ok (.bipush 12, 2) := by decide +kernel
theorem d_Model_block_98 : decode b_Model_block 98 = .ok (.if_icmp .ne 7, 3) := by decide +kernel
theorem d_Model_block_101 : decode b_Model_block 101 = .ok (.iconst 2, 1) := by decide +kernel
theorem d_Model_block_102 : decode b_Model_block 102 = .ok (.goto 4, 3) := by decide +kernel
theorem d_Model_block_105 : decode b_Model_block 105 = .ok (.iconst 0, 1) := by decide +kernel
theorem d_Model_block_106 : decode b_Model_block 106 = .ok (.putfield 63, 3) := by decide +kernel
theorem d_Model_block_109 : decode b_Model_block 109 = .ok (.aload_n 0, 1) := by decide +kernel
theorem d_Model_block_110 : decode b_Model_block 110 = .ok (.getfield 63, 3) := by decide +kernel
theorem d_Model_block_113 : decode b_Model_block 113 = .ok (.ifCond .eq 5, 3) := by decide +kernel
theorem d_Model_block_116 : decode b_Model_block 116 = .ok (.iconst 0, 1) := by decide +kernel
theorem d_Model_block_117 : decode b_Model_block 117 = .ok (.ireturn, 1) := by decide +kernel
theorem d_Model_block_118 : decode b_Model_block 118 = .ok (.aload_n 0, 1) := by decide +kernel
theorem d_Model_block_119 : decode b_Model_block 119 = .ok (.getfield 33, 3) := by decide +kernel
theorem d_Model_block_122 : decode b_Model_block 122 = .ok (.aload_n 0, 1) := by decide +kernel
theorem d_Model_block_123 : decode b_Model_block 123 = .ok (.getfield 100, 3) := by decide +kernel
theorem d_Model_block_126 : decode b_Model_block 126 = .ok (.iload_n 1, 1) := by decide +kernel
theorem d_Model_block_127 : decode b_Model_block 127 = .ok (.iastore, 1) := by decide +kernel
theorem d_Model_block_128 : decode b_Model_block 128 = .ok (.aload_n 0, 1) := by decide +kernel
theorem d_Model_block_129 : decode b_Model_block 129 = .ok (.getfield 36, 3) := by decide +kernel
theorem d_Model_block_132 : decode b_Model_block 132 = .ok (.aload_n 0, 1) := by decide +kernel
theorem d_Model_block_133 : decode b_Model_block 133 = .ok (.getfield 100, 3) := by decide +kernel
theorem d_Model_block_136 : decode b_Model_block 136 = .ok (.iconst 0, 1) := by decide +kernel
theorem d_Model_block_137 : decode b_Model_block 137 = .ok (.iastore, 1) := by decide +kernel
theorem d_Model_block_138 : decode b_Model_block 138 = .ok (.iload_n 1, 1) := by decide +kernel
theorem d_Model_block_139 : decode b_Model_block 139 = .ok (.iconst 3, 1) := by decide +kernel
theorem d_Model_block_140 : decode b_Model_block 140 = .ok (.if_icmp .eq 7, 3) := by decide +kernel
theorem d_Model_block_143 : decode b_Model_block 143 = .ok (.aload_n 0, 1) := by decide +kernel
theorem d_Model_block_144 : decode b_Model_block 144 = .ok (.invokevirtual 132, 3) := by decide +kernel
theorem d_Model_block_147 : decode b_Model_block 147 = .ok (.aload_n 0, 1) := by decide +kernel
theorem d_Model_block_148 : decode b_Model_block 148 = .ok (.dup, 1) := by decide +kernel
theorem d_Model_block_149 : decode b_Model_block 149 = .ok (.getfield 100, 3) := by decide +kernel
theorem d_Model_block_152 : decode b_Model_block 152 = .ok (.iconst 1, 1) := by decide +kernel
theorem d_Model_block_153 : decode b_Model_block 153 = .ok (.iadd, 1) := by decide +kernel
theorem d_Model_block_154 : decode b_Model_block 154 = .ok (.putfield 100, 3) := by decide +kernel
theorem d_Model_block_157 : decode b_Model_block 157 = .ok (.aload_n 0, 1) := by decide +kernel
theorem d_Model_block_158 : decode b_Model_block 158 = .ok (.iconst 0, 1) := by decide +kernel
theorem d_Model_block_159 : decode b_Model_block 159 = .ok (.putfield 80, 3) := by decide +kernel
theorem d_Model_block_162 : decode b_Model_block 162 = .ok (.aload_n 0, 1) := by decide +kernel
theorem d_Model_block_163 : decode b_Model_block 163 = .ok (.getfield 100, 3) := by decide +kernel
theorem d_Model_block_166 : decode b_Model_block 166 = .ok (.ireturn, 1) := by decide +kernel
theorem d_Model_noBlock_0 : decode b_Model_noBlock 0 = .ok (.iload_n 1, 1) := by decide +kernel
theorem d_Model_noBlock_1 : decode b_Model_noBlock 1 = .ok (.ifCond .lt 11, 3) := by decide +kernel
theorem d_Model_noBlock_4 : decode b_Model_noBlock 4 = .ok (.iload_n 1, 1) := by decide +kernel
theorem d_Model_noBlock_5 : decode b_Model_noBlock 5 = .ok (.aload_n 0, 1) := by decide +kernel
theorem d_Model_noBlock_6 : decode b_Model_noBlock 6 = .ok (.getfield 100, 3) := by decide +kernel
theorem d_Model_noBlock_9 : decode b_Model_noBlock 9 = .ok (.if_icmp .lt 7, 3) := by decide +kernel
theorem d_Model_noBlock_12 : decode b_Model_noBlock 12 = .ok (.iconst 1, 1) := by decide +kernel
theorem d_Model_noBlock_13 : decode b_Model_noBlock 13 = .ok (.goto 4, 3) := by decide +kernel
theorem d_Model_noBlock_16 : decode b_Model_noBlock 16 = .ok (.iconst 0, 1) := by decide +kernel
theorem d_Model_noBlock_17 : decode b_Model_noBlock 17 = .ok (.ireturn, 1) := by decide +kernel
theorem d_Model_size_0 : decode b_Model_size 0 = .ok (.aload_n 0, 1) := by decide +kernel
theorem d_Model_size_1 : decode b_Model_size 1 = .ok (.aload_n 0, 1) := by decide +kernel
theorem d_Model_size_2 : decode b_Model_size 2 = .ok (.iload_n 1, 1) := by decide +kernel
theorem d_Model_size_3 : decode b_Model_size 3 = .ok (.invokevirtual 135, 3) := by decide +kernel
theorem d_Model_size_6 : decode b_Model_size 6 = .ok (.ifCond .eq 7, 3) := by decide +kernel
theorem d_Model_size_9 : decode b_Model_size 9 = .ok (.iconst 1, 1) := by decide +kernel
theorem d_Model_size_10 : decode b_Model_size 10 = .ok (.goto 4, 3) := by decide +kernel
theorem d_Model_size_13 : decode b_Model_size 13 = .ok (.iconst 0, 1) := by decide +kernel
theorem d_Model_size_14 : decode b_Model_size 14 = .ok (.putfield 63, 3) := by decide +kernel
theorem d_Model_size_17 : decode b_Model_size 17 = .ok (.aload_n 0, 1) := by decide +kernel
theorem d_Model_size_18 : decode b_Model_size 18 = .ok (.getfield 63, 3) := by decide +kernel
theorem d_Model_size_21 : decode b_Model_size 21 = .ok (.ifCond .ne 12, 3) := by decide +kernel
theorem d_Model_size_24 : decode b_Model_size 24 = .ok (.aload_n 0, 1) := by decide +kernel
theorem d_Model_size_25 : decode b_Model_size 25 = .ok (.getfield 36, 3) := by decide +kernel
theorem d_Model_size_28 : decode b_Model_size 28 = .ok (.iload_n 1, 1) := by decide +kernel
theorem d_Model_size_29 : decode b_Model_size 29 = .ok (.iaload, 1) := by decide +kernel
theorem d_Model_size_30 : decode b_Model_size 30 = .ok (.goto 4, 3) := by decide +kernel
theorem d_Model_size_33 : decode b_Model_size 33 = .ok (.iconst 0, 1) := by decide +kernel
theorem d_Model_size_34 : decode b_Model_size 34 = .ok (.ireturn, 1) := by decide +kernel
theorem d_Model_cell_0 : decode b_Model_cell 0 = .ok (.aload_n 0, 1) := by decide +kernel
theorem d_Model_cell_1 : decode b_Model_cell 1 = .ok (.aload_n 0, 1) := by decide +kernel
theorem d_Model_cell_2 : decode b_Model_cell 2 = .ok (.iload_n 1, 1) := by decide +kernel
theorem d_Model_cell_3 : decode b_Model_cell 3 = .ok (.invokevirtual 135, 3) := by decide +kernel
theorem d_Model_cell_6 : decode b_Model_cell 6 = .ok (.ifCond .ne 29, 3) := by decide +kernel
theorem d_Model_cell_9 : decode b_Model_cell 9 = .ok (.iload_n 2, 1) := by decide +kernel
theorem d_Model_cell_10 : decode b_Model_cell 10 = .ok (.ifCond .lt 25, 3) := by decide +kernel
theorem d_Model_cell_13 : decode b_Model_cell 13 = .ok (.iload_n 2, 1) := by decide +kernel
theorem d_Model_cell_14 : decode b_Model_cell 14 = .ok (.aload_n 0, 1) := by decide +kernel
theorem d_Model_cell_15 : decode b_Model_cell 15 = .ok (.getfield 36, 3) := by decide +kernel
theorem d_Model_cell_18 : decode b_Model_cell 18 = .ok (.aload_n 0, 1) := by decide +kernel
theorem d_Model_cell_19 : decode b_Model_cell 19 = .ok (.iload_n 1, 1) := by decide +kernel
theorem d_Model_cell_20 : decode b_Model_cell 20 = .ok (.invokevirtual 135, 3) := by decide +kernel
theorem d_Model_cell_23 : decode b_Model_cell 23 = .ok (.ifCond .eq 7, 3) := by decide +kernel
theorem d_Model_cell_26 : decode b_Model_cell 26 = .ok (.iconst 0, 1) := by decide +kernel
theorem d_Model_cell_27 : decode b_Model_cell 27 = .ok (.goto 4, 3) := by decide +kernel
theorem d_Model_cell_30 : decode b_Model_cell 30 = .ok (.iload_n 1, 1) := by decide +kernel
theorem d_Model_cell_31 : decode b_Model_cell 31 = .ok (.iaload, 1) := by decide +kernel
theorem d_Model_cell_32 : decode b_Model_cell 32 = .ok (.if_icmp .lt 7, 3) := by decide +kernel
theorem d_Model_cell_35 : decode b_Model_cell 35 = .ok (.iconst 1, 1) := by decide +kernel
theorem d_Model_cell_36 : decode b_Model_cell 36 = .ok (.goto 4, 3) := by decide +kernel
theorem d_Model_cell_39 : decode b_Model_cell 39 = .ok (.iconst 0, 1) := by decide +kernel
theorem d_Model_cell_40 : decode b_Model_cell 40 = .ok (.putfield 63, 3) := by decide +kernel
theorem d_Model_cell_43 : decode b_Model_cell 43 = .ok (.aload_n 0, 1) := by decide +kernel
theorem d_Model_cell_44 : decode b_Model_cell 44 = .ok (.getfield 63, 3) := by decide +kernel
theorem d_Model_cell_47 : decode b_Model_cell 47 = .ok (.ifCond .ne 34, 3) := by decide +kernel
theorem d_Model_cell_50 : decode b_Model_cell 50 = .ok (.aload_n 0, 1) := by decide +kernel
theorem d_Model_cell_51 : decode b_Model_cell 51 = .ok (.getfield 39, 3) := by decide +kernel
theorem d_Model_cell_54 : decode b_Model_cell 54 = .ok (.sipush 240, 3) := by decide +kernel
theorem d_Model_cell_57 : decode b_Model_cell 57 = .ok (.iload_n 1, 1) := by decide +kernel
theorem d_Model_cell_58 : decode b_Model_cell 58 = .ok (.imul, 1) := by decide +kernel
theorem d_Model_cell_59 : decode b_Model_cell 59 = .ok (.iload_n 2, 1) := by decide +kernel
theorem d_Model_cell_60 : decode b_Model_cell 60 = .ok (.iadd, 1) := by decide +kernel
theorem d_Model_cell_61 : decode b_Model_cell 61 = .ok (.iaload, 1) := by decide +kernel
theorem d_Model_cell_62 : decode b_Model_cell 62 = .ok (.bipush 64, 2) := by decide +kernel
theorem d_Model_cell_64 : decode b_Model_cell 64 = .ok (.aload_n 0, 1) := by decide +kernel
theorem d_Model_cell_65 : decode b_Model_cell 65 = .ok (.getfield 42, 3) := by decide +kernel
theorem d_Model_cell_68 : decode b_Model_cell 68 = .ok (.sipush 240, 3) := by decide +kernel
theorem d_Model_cell_71 : decode b_Model_cell 71 = .ok (.iload_n 1, 1) := by decide +kernel
theorem d_Model_cell_72 : decode b_Model_cell 72 = .ok (.imul, 1) := by decide +kernel
theorem d_Model_cell_73 : decode b_Model_cell 73 = .ok (.iload_n 2, 1) := by decide +kernel
theorem d_Model_cell_74 : decode b_Model_cell 74 = .ok (.iadd, 1) := by decide +kernel
theorem d_Model_cell_75 : decode b_Model_cell 75 = .ok (.iaload, 1) := by decide +kernel
theorem d_Model_cell_76 : decode b_Model_cell 76 = .ok (.imul, 1) := by decide +kernel
theorem d_Model_cell_77 : decode b_Model_cell 77 = .ok (.iadd, 1) := by decide +kernel
theorem d_Model_cell_78 : decode b_Model_cell 78 = .ok (.goto 4, 3) := by decide +kernel
theorem d_Model_cell_81 : decode b_Model_cell 81 = .ok (.iconst 0, 1) := by decide +kernel
theorem d_Model_cell_82 : decode b_Model_cell 82 = .ok (.ireturn, 1) := by decide +kernel
theorem d_Model_hear_0 : decode b_Model_hear 0 = .ok (.aload_n 0, 1) := by decide +kernel
theorem d_Model_hear_1 : decode b_Model_hear 1 = .ok (.getfield 139, 3) := by decide +kernel
theorem d_Model_hear_4 : decode b_Model_hear 4 = .ok (.ifCond .le 15, 3) := by decide +kernel
theorem d_Model_hear_7 : decode b_Model_hear 7 = .ok (.aload_n 0, 1) := by decide +kernel
theorem d_Model_hear_8 : decode b_Model_hear 8 = .ok (.iload_n 1, 1) := by decide +kernel
theorem d_Model_hear_9 : decode b_Model_hear 9 = .ok (.invokevirtual 66, 3) := by decide +kernel
theorem d_Model_hear_12 : decode b_Model_hear 12 = .ok (.ifCond .eq 7, 3) := by decide +kernel
theorem d_Model_hear_15 : decode b_Model_hear 15 = .ok (.iconst 1, 1) := by decide +kernel
theorem d_Model_hear_16 : decode b_Model_hear 16 = .ok (.goto 4, 3) := by decide +kernel
theorem d_Model_hear_19 : decode b_Model_hear 19 = .ok (.iconst 0, 1) := by decide +kernel
theorem d_Model_hear_20 : decode b_Model_hear 20 = .ok (.istore_n 2, 1) := by decide +kernel
theorem d_Model_hear_21 : decode b_Model_hear 21 = .ok (.aload_n 0, 1) := by decide +kernel
theorem d_Model_hear_22 : decode b_Model_hear 22 = .ok (.getfield 45, 3) := by decide +kernel
theorem d_Model_hear_25 : decode b_Model_hear 25 = .ok (.aload_n 0, 1) := by decide +kernel
theorem d_Model_hear_26 : decode b_Model_hear 26 = .ok (.getfield 142, 3) := by decide +kernel
theorem d_Model_hear_29 : decode b_Model_hear 29 = .ok (.iload_n 2, 1) := by decide +kernel
theorem d_Model_hear_30 : decode b_Model_hear 30 = .ok (.ifCond .eq 11, 3) := by decide +kernel
theorem d_Model_hear_33 : decode b_Model_hear 33 = .ok (.iload_n 1, 1) := by decide +kernel
theorem d_Model_hear_34 : decode b_Model_hear 34 = .ok (.bipush 32, 2) := by decide +kernel
theorem d_Model_hear_36 : decode b_Model_hear 36 = .ok (.isub, 1) := by decide +kernel
theorem d_Model_hear_37 : decode b_Model_hear 37 = .ok (.i2c, 1) := by decide +kernel
theorem d_Model_hear_38 : decode b_Model_hear 38 = .ok (.goto 4, 3) := by decide +kernel
theorem d_Model_hear_41 : decode b_Model_hear 41 = .ok (.iload_n 1, 1) := by decide +kernel
theorem d_Model_hear_42 : decode b_Model_hear 42 = .ok (.castore, 1) := by decide +kernel
theorem d_Model_hear_43 : decode b_Model_hear 43 = .ok (.aload_n 0, 1) := by decide +kernel
theorem d_Model_hear_44 : decode b_Model_hear 44 = .ok (.dup, 1) := by decide +kernel
theorem d_Model_hear_45 : decode b_Model_hear 45 = .ok (.getfield 142, 3) := by decide +kernel
theorem d_Model_hear_48 : decode b_Model_hear 48 = .ok (.iconst 1, 1) := by decide +kernel
theorem d_Model_hear_49 : decode b_Model_hear 49 = .ok (.iadd, 1) := by decide +kernel
theorem d_Model_hear_50 : decode b_Model_hear 50 = .ok (.putfield 142, 3) := by decide +kernel
theorem d_Model_hear_53 : decode b_Model_hear 53 = .ok (.aload_n 0, 1) := by decide +kernel
theorem d_Model_hear_54 : decode b_Model_hear 54 = .ok (.iload_n 2, 1) := by decide +kernel
theorem d_Model_hear_55 : decode b_Model_hear 55 = .ok (.ifCond .eq 15, 3) := by decide +kernel
theorem d_Model_hear_58 : decode b_Model_hear 58 = .ok (.aload_n 0, 1) := by decide +kernel
theorem d_Model_hear_59 : decode b_Model_hear 59 = .ok (.getfield 139, 3) := by decide +kernel
theorem d_Model_hear_62 : decode b_Model_hear 62 = .ok (.iconst 1, 1) := by decide +kernel
theorem d_Model_hear_63 : decode b_Model_hear 63 = .ok (.if_icmp .ne 7, 3) := by decide +kernel
theorem d_Model_hear_66 : decode b_Model_hear 66 = .ok (.iconst 0, 1) := by decide +kernel
theorem d_Model_hear_67 : decode b_Model_hear 67 = .ok (.goto 7, 3) := by decide +kernel
theorem d_Model_hear_70 : decode b_Model_hear 70 = .ok (.aload_n 0, 1) := by decide +kernel
theorem d_Model_hear_71 : decode b_Model_hear 71 = .ok (.getfield 139, 3) := by decide +kernel
theorem d_Model_hear_74 : decode b_Model_hear 74 = .ok (.putfield 139, 3) := by decide +kernel
theorem d_Model_hear_77 : decode b_Model_hear 77 = .ok (.return_, 1) := by decide +kernel
theorem d_Model_characterOf_0 : decode b_Model_characterOf 0 = .ok (.bipush 97, 2) := by decide +kernel
theorem d_Model_characterOf_2 : decode b_Model_characterOf 2 = .ok (.istore_n 2, 1) := by decide +kernel
theorem d_Model_characterOf_3 : decode b_Model_characterOf 3 = .ok (.iload_n 2, 1) := by decide +kernel
theorem d_Model_characterOf_4 : decode b_Model_characterOf 4 = .ok (.bipush 122, 2) := by decide +kernel
theorem d_Model_characterOf_6 : decode b_Model_characterOf 6 = .ok (.if_icmp .gt 22, 3) := by decide +kernel
theorem d_Model_characterOf_9 : decode b_Model_characterOf 9 = .ok (.aload_n 0, 1) := by decide +kernel
theorem d_Model_characterOf_10 : decode b_Model_characterOf 10 = .ok (.iload_n 2, 1) := by decide +kernel
theorem d_Model_characterOf_11 : decode b_Model_characterOf 11 = .ok (.invokevirtual 77, 3) := by decide +kernel
theorem d_Model_characterOf_14 : decode b_Model_characterOf 14 = .ok (.iload_n 1, 1) := by decide +kernel
theorem d_Model_characterOf_15 : decode b_Model_characterOf 15 = .ok (.if_icmp .ne 5, 3) := by decide +kernel
theorem d_Model_characterOf_18 : decode b_Model_characterOf 18 = .ok (.iload_n 2, 1) := by decide +kernel
theorem d_Model_characterOf_19 : decode b_Model_characterOf 19 = .ok (.ireturn, 1) := by decide +kernel
theorem d_Model_characterOf_20 : decode b_Model_characterOf 20 = .ok (.iload_n 2, 1) := by decide +kernel
theorem d_Model_characterOf_21 : decode b_Model_characterOf 21 = .ok (.iconst 1, 1) := by decide +kernel
theorem d_Model_characterOf_22 : decode b_Model_characterOf 22 = .ok (.iadd, 1) := by decide +kernel
theorem d_Model_characterOf_23 : decode b_Model_characterOf 23 = .ok (.i2c, 1) := by decide +kernel
theorem d_Model_characterOf_24 : decode b_Model_characterOf 24 = .ok (.istore_n 2, 1) := by decide +kernel
theorem d_Model_characterOf_25 : decode b_Model_characterOf 25 = .ok (.goto (-22), 3) := by decide +kernel
theorem d_Model_characterOf_28 : decode b_Model_characterOf 28 = .ok (.bipush 33, 2) := by decide +kernel
theorem d_Model_characterOf_30 : decode b_Model_characterOf 30 = .ok (.istore_n 2, 1) := by decide +kernel
theorem d_Model_characterOf_31 : decode b_Model_characterOf 31 = .ok (.iload_n 2, 1) := by decide +kernel
theorem d_Model_characterOf_32 : decode b_Model_characterOf 32 = .ok (.bipush 65, 2) := by decide +kernel
theorem d_Model_characterOf_34 : decode b_Model_characterOf 34 = .ok (.if_icmp .ge 26, 3) := by decide +kernel
theorem d_Model_characterOf_37 : decode b_Model_characterOf 37 = .ok (.iload_n 1, 1) := by decide +kernel
theorem d_Model_characterOf_38 : decode b_Model_characterOf 38 = .ok (.ifCond .le 14, 3) := by decide +kernel
theorem d_Model_characterOf_41 : decode b_Model_characterOf 41 = .ok (.aload_n 0, 1) := by decide +kernel
theorem d_Model_characterOf_42 : decode b_Model_characterOf 42 = .ok (.iload_n 2, 1) := by decide +kernel
theorem d_Model_characterOf_43 : decode b_Model_characterOf 43 = .ok (.invokevirtual 73, 3) := by decide +kernel
theorem d_Model_characterOf_46 : decode b_Model_characterOf 46 = .ok (.iload_n 1, 1) := by decide +kernel
theorem d_Model_characterOf_47 : decode b_Model_characterOf 47 = .ok (.if_icmp .ne 5, 3) := by decide +kernel
theorem d_Model_characterOf_50 : decode b_Model_characterOf 50 = .ok (.iload_n 2, 1) := by decide +kernel
theorem d_Model_characterOf_51 : decode b_Model_characterOf 51 = .ok (.ireturn, 1) := by decide +kernel
theorem d_Model_characterOf_52 : decode b_Model_characterOf 52 = .ok (.iload_n 2, 1) := by decide +kernel
theorem d_Model_characterOf_53 : decode b_Model_characterOf 53 = .ok (.iconst 1, 1) := by decide +kernel
theorem d_Model_characterOf_54 : decode b_Model_characterOf 54 = .ok (.iadd, 1) := by decide +kernel
theorem d_Model_characterOf_55 : decode b_Model_characterOf 55 = .ok (.i2c, 1) := by decide +kernel
theorem d_Model_characterOf_56 : decode b_Model_characterOf 56 = .ok (.istore_n 2, 1) := by decide +kernel
theorem d_Model_characterOf_57 : decode b_Model_characterOf 57 = .ok (.goto (-26), 3) := by decide +kernel
theorem d_Model_characterOf_60 : decode b_Model_characterOf 60 = .ok (.bipush 35, 2) := by decide +kernel
theorem d_Model_characterOf_62 : decode b_Model_characterOf 62 = .ok (.ireturn, 1) := by decide +kernel
theorem d_Model_digitOf_0 : decode b_Model_digitOf 0 = .ok (.iconst 0, 1) := by decide +kernel
theorem d_Model_digitOf_1 : decode b_Model_digitOf 1 = .ok (.istore_n 2, 1) := by decide +kernel
theorem d_Model_digitOf_2 : decode b_Model_digitOf 2 = .ok (.iload_n 2, 1) := by decide +kernel
theorem d_Model_digitOf_3 : decode b_Model_digitOf 3 = .ok (.bipush 10, 2) := by decide +kernel
theorem d_Model_digitOf_5 : decode b_Model_digitOf 5 = .ok (.if_icmp .ge 20, 3) := by decide +kernel
theorem d_Model_digitOf_8 : decode b_Model_digitOf 8 = .ok (.aload_n 0, 1) := by decide +kernel
theorem d_Model_digitOf_9 : decode b_Model_digitOf 9 = .ok (.iload_n 2, 1) := by decide +kernel
theorem d_Model_digitOf_10 : decode b_Model_digitOf 10 = .ok (.invokevirtual 128, 3) := by decide +kernel
theorem d_Model_digitOf_13 : decode b_Model_digitOf 13 = .ok (.iload_n 1, 1) := by decide +kernel
theorem d_Model_digitOf_14 : decode b_Model_digitOf 14 = .ok (.if_icmp .ne 5, 3) := by decide +kernel
theorem d_Model_digitOf_17 : decode b_Model_digitOf 17 = .ok (.iload_n 2, 1) := by decide +kernel
theorem d_Model_digitOf_18 : decode b_Model_digitOf 18 = .ok (.ireturn, 1) := by decide +kernel
theorem d_Model_digitOf_19 : decode b_Model_digitOf 19 = .ok (.iinc 2 1, 3) := by decide +kernel
theorem d_Model_digitOf_22 : decode b_Model_digitOf 22 = .ok (.goto (-20), 3) := by decide +kernel
theorem d_Model_digitOf_25 : decode b_Model_digitOf 25 = .ok (.iconst (-1), 1) := by decide +kernel
theorem d_Model_digitOf_26 : decode b_Model_digitOf 26 = .ok (.ireturn, 1) := by decide +kernel
theorem d_Model_cellsStand_0 : decode b_Model_cellsStand 0 = .ok (.aload_n 0, 1) := by decide +kernel
theorem d_Model_cellsStand_1 : decode b_Model_cellsStand 1 = .ok (.getfield 23, 3) := by decide +kernel
theorem d_Model_cellsStand_4 : decode b_Model_cellsStand 4 = .ok (.iload_n 1, 1) := by decide +kernel
theorem d_Model_cellsStand_5 : decode b_Model_cellsStand 5 = .ok (.iaload, 1) := by decide +kernel
theorem d_Model_cellsStand_6 : decode b_Model_cellsStand 6 = .ok (.istore 5, 2) := by decide +kernel
theorem d_Model_cellsStand_8 : decode b_Model_cellsStand 8 = .ok (.iload_n 2, 1) := by decide +kernel
theorem d_Model_cellsStand_9 : decode b_Model_cellsStand 9 = .ok (.iload 5, 2) := by decide +kernel
theorem d_Model_cellsStand_11 : decode b_Model_cellsStand 11 = .ok (.iadd, 1) := by decide +kernel
theorem d_Model_cellsStand_12 : decode b_Model_cellsStand 12 = .ok (.iload 4, 2) := by decide +kernel
theorem d_Model_cellsStand_14 : decode b_Model_cellsStand 14 = .ok (.if_icmp .gt 26, 3) := by decide +kernel
theorem d_Model_cellsStand_17 : decode b_Model_cellsStand 17 = .ok (.aload_n 0, 1) := by decide +kernel
theorem d_Model_cellsStand_18 : decode b_Model_cellsStand 18 = .ok (.aload_n 0, 1) := by decide +kernel
theorem d_Model_cellsStand_19 : decode b_Model_cellsStand 19 = .ok (.getfield 13, 3) := by decide +kernel
theorem d_Model_cellsStand_22 : decode b_Model_cellsStand 22 = .ok (.iload_n 1, 1) := by decide +kernel
theorem d_Model_cellsStand_23 : decode b_Model_cellsStand 23 = .ok (.iaload, 1) := by decide +kernel
theorem d_Model_cellsStand_24 : decode b_Model_cellsStand 24 = .ok (.iload_n 2, 1) := by decide +kernel
theorem d_Model_cellsStand_25 : decode b_Model_cellsStand 25 = .ok (.iload 5, 2) := by decide +kernel
theorem d_Model_cellsStand_27 : decode b_Model_cellsStand 27 = .ok (.iload_n 3, 1) := by decide +kernel
theorem d_Model_cellsStand_28 : decode b_Model_cellsStand 28 = .ok (.iload 4, 2) := by decide +kernel
theorem d_Model_cellsStand_30 : decode b_Model_cellsStand 30 = .ok (.invokevirtual 103, 3) := by decide +kernel
theorem d_Model_cellsStand_33 : decode b_Model_cellsStand 33 = .ok (.ifCond .eq 7, 3) := by decide +kernel
theorem d_Model_cellsStand_36 : decode b_Model_cellsStand 36 = .ok (.iconst 1, 1) := by decide +kernel
theorem d_Model_cellsStand_37 : decode b_Model_cellsStand 37 = .ok (.goto 4, 3) := by decide +kernel
theorem d_Model_cellsStand_40 : decode b_Model_cellsStand 40 = .ok (.iconst 0, 1) := by decide +kernel
theorem d_Model_cellsStand_41 : decode b_Model_cellsStand 41 = .ok (.istore 6, 2) := by decide +kernel
theorem d_Model_cellsStand_43 : decode b_Model_cellsStand 43 = .ok (.iconst 0, 1) := by decide +kernel
theorem d_Model_cellsStand_44 : decode b_Model_cellsStand 44 = .ok (.istore 7, 2) := by decide +kernel
theorem d_Model_cellsStand_46 : decode b_Model_cellsStand 46 = .ok (.iload 7, 2) := by decide +kernel
theorem d_Model_cellsStand_48 : decode b_Model_cellsStand 48 = .ok (.iload 5, 2) := by decide +kernel
theorem d_Model_cellsStand_50 : decode b_Model_cellsStand 50 = .ok (.if_icmp .ge 44, 3) := by decide +kernel
theorem d_Model_cellsStand_53 : decode b_Model_cellsStand 53 = .ok (.iload 6, 2) := by decide +kernel
theorem d_Model_cellsStand_55 : decode b_Model_cellsStand 55 = .ok (.ifCond .eq 39, 3) := by decide +kernel
theorem d_Model_cellsStand_58 : decode b_Model_cellsStand 58 = .ok (.aload_n 0, 1) := by decide +kernel
theorem d_Model_cellsStand_59 : decode b_Model_cellsStand 59 = .ok (.getfield 39, 3) := by decide +kernel
theorem d_Model_cellsStand_62 : decode b_Model_cellsStand 62 = .ok (.iload_n 2, 1) := by decide +kernel
theorem d_Model_cellsStand_63 : decode b_Model_cellsStand 63 = .ok (.iload 7, 2) := by decide +kernel
theorem d_Model_cellsStand_65 : decode b_Model_cellsStand 65 = .ok (.iadd, 1) := by decide +kernel
theorem d_Model_cellsStand_66 : decode b_Model_cellsStand 66 = .ok (.iaload, 1) := by decide +kernel
theorem d_Model_cellsStand_67 : decode b_Model_cellsStand 67 = .ok (.aload_n 0, 1) := by decide +kernel
theorem d_Model_cellsStand_68 : decode b_Model_cellsStand 68 = .ok (.getfield 26, 3) := by decide +kernel
theorem d_Model_cellsStand_71 : decode b_Model_cellsStand 71 = .ok (.iconst 3, 1) := by decide +kernel
theorem d_Model_cellsStand_72 : decode b_Model_cellsStand 72 = .ok (.iload_n 1, 1) := by decide +kernel
theorem d_Model_cellsStand_73 : decode b_Model_cellsStand 73 = .ok (.imul, 1) := by decide +kernel
theorem d_Model_cellsStand_74 : decode b_Model_cellsStand 74 = .ok (.iload 7, 2) := by decide +kernel
theorem d_Model_cellsStand_76 : decode b_Model_cellsStand 76 = .ok (.iadd, 1) := by decide +kernel
theorem d_Model_cellsStand_77 : decode b_Model_cellsStand 77 = .ok (.iaload, 1) := by decide +kernel
theorem d_Model_cellsStand_78 : decode b_Model_cellsStand 78 = .ok (.if_icmp .ne 7, 3) := by decide +kernel
theorem d_Model_cellsStand_81 : decode b_Model_cellsStand 81 = .ok (.iconst 1, 1) := by decide +kernel
theorem d_Model_cellsStand_82 : decode b_Model_cellsStand 82 = .ok (.goto 4, 3) := by decide +kernel
theorem d_Model_cellsStand_85 : decode b_Model_cellsStand 85 = .ok (.iconst 0, 1) := by decide +kernel
theorem d_Model_cellsStand_86 : decode b_Model_cellsStand 86 = .ok (.istore 6, 2) := by decide +kernel
theorem d_Model_cellsStand_88 : decode b_Model_cellsStand 88 = .ok (.iinc 7 1, 3) := by decide +kernel
theorem d_Model_cellsStand_91 : decode b_Model_cellsStand 91 = .ok (.goto (-45), 3) := by decide +kernel
theorem d_Model_cellsStand_94 : decode b_Model_cellsStand 94 = .ok (.iload 6, 2) := by decide +kernel
theorem d_Model_cellsStand_96 : decode b_Model_cellsStand 96 = .ok (.ireturn, 1) := by decide +kernel
theorem d_Model_readOne_0 : decode b_Model_readOne 0 = .ok (.iconst (-1), 1) := by decide +kernel
theorem d_Model_readOne_1 : decode b_Model_readOne 1 = .ok (.istore 4, 2) := by decide +kernel
theorem d_Model_readOne_3 : decode b_Model_readOne 3 = .ok (.iconst 0, 1) := by decide +kernel
theorem d_Model_readOne_4 : decode b_Model_readOne 4 = .ok (.istore 5, 2) := by decide +kernel
theorem d_Model_readOne_6 : decode b_Model_readOne 6 = .ok (.iload 5, 2) := by decide +kernel
theorem d_Model_readOne_8 : decode b_Model_readOne 8 = .ok (.aload_n 0, 1) := by decide +kernel
theorem d_Model_readOne_9 : decode b_Model_readOne 9 = .ok (.getfield 83, 3) := by decide +kernel
theorem d_Model_readOne_12 : decode b_Model_readOne 12 = .ok (.if_icmp .ge 98, 3) := by decide +kernel
theorem d_Model_readOne_15 : decode b_Model_readOne 15 = .ok (.iload 4, 2) := by decide +kernel
theorem d_Model_readOne_17 : decode b_Model_readOne 17 = .ok (.ifCond .lt 54, 3) := by decide +kernel
theorem d_Model_readOne_20 : decode b_Model_readOne 20 = .ok (.aload_n 0, 1) := by decide +kernel
theorem d_Model_readOne_21 : decode b_Model_readOne 21 = .ok (.getfield 23, 3) := by decide +kernel
theorem d_Model_readOne_24 : decode b_Model_readOne 24 = .ok (.iload 5, 2) := by decide +kernel
theorem d_Model_readOne_26 : decode b_Model_readOne 26 = .ok (.iaload, 1) := by decide +kernel
theorem d_Model_readOne_27 : decode b_Model_readOne 27 = .ok (.aload_n 0, 1) := by decide +kernel
theorem d_Model_readOne_28 : decode b_Model_readOne 28 = .ok (.getfield 23, 3) := by decide +kernel
theorem d_Model_readOne_31 : decode b_Model_readOne 31 = .ok (.iload 4, 2) := by decide +kernel
theorem d_Model_readOne_33 : decode b_Model_readOne 33 = .ok (.iaload, 1) := by decide +kernel
theorem d_Model_readOne_34 : decode b_Model_readOne 34 = .ok (.if_icmp .gt 37, 3) := by decide +kernel
theorem d_Model_readOne_37 : decode b_Model_readOne 37 = .ok (.aload_n 0, 1) := by decide +kernel
theorem d_Model_readOne_38 : decode b_Model_readOne 38 = .ok (.getfield 23, 3) := by decide +kernel
theorem d_Model_readOne_41 : decode b_Model_readOne 41 = .ok (.iload 5, 2) := by decide +kernel
theorem d_Model_readOne_43 : decode b_Model_readOne 43 = .ok (.iaload, 1) := by decide +kernel
theorem d_Model_readOne_44 : decode b_Model_readOne 44 = .ok (.aload_n 0, 1) := by decide +kernel
theorem d_Model_readOne_45 : decode b_Model_readOne 45 = .ok (.getfield 23, 3) := by decide +kernel
theorem d_Model_readOne_48 : decode b_Model_readOne 48 = .ok (.iload 4, 2) := by decide +kernel
theorem d_Model_readOne_50 : decode b_Model_readOne 50 = .ok (.iaload, 1) := by decide +kernel
theorem d_Model_readOne_51 : decode b_Model_readOne 51 = .ok (.if_icmp .ne 24, 3) := by decide +kernel
theorem d_Model_readOne_54 : decode b_Model_readOne 54 = .ok (.aload_n 0, 1) := by decide +kernel
theorem d_Model_readOne_55 : decode b_Model_readOne 55 = .ok (.getfield 13, 3) := by decide +kernel
theorem d_Model_readOne_58 : decode b_Model_readOne 58 = .ok (.iload 5, 2) := by decide +kernel
theorem d_Model_readOne_60 : decode b_Model_readOne 60 = .ok (.iaload, 1) := by decide +kernel
theorem d_Model_readOne_61 : decode b_Model_readOne 61 = .ok (.aload_n 0, 1) := by decide +kernel
theorem d_Model_readOne_62 : decode b_Model_readOne 62 = .ok (.getfield 13, 3) := by decide +kernel
theorem d_Model_readOne_65 : decode b_Model_readOne 65 = .ok (.iload 4, 2) := by decide +kernel
theorem d_Model_readOne_67 : decode b_Model_readOne 67 = .ok (.iaload, 1) := by decide +kernel
theorem d_Model_readOne_68 : decode b_Model_readOne 68 = .ok (.if_icmp .ge 7, 3) := by decide +kernel
theorem d_Model_readOne_71 : decode b_Model_readOne 71 = .ok (.iconst 1, 1) := by decide +kernel
theorem d_Model_readOne_72 : decode b_Model_readOne 72 = .ok (.goto 4, 3) := by decide +kernel
theorem d_Model_readOne_75 : decode b_Model_readOne 75 = .ok (.iconst 0, 1) := by decide +kernel
theorem d_Model_readOne_76 : decode b_Model_readOne 76 = .ok (.istore 6, 2) := by decide +kernel
theorem d_Model_readOne_78 : decode b_Model_readOne 78 = .ok (.iload 6, 2) := by decide +kernel
theorem d_Model_readOne_80 : decode b_Model_readOne 80 = .ok (.ifCond .eq 20, 3) := by decide +kernel
theorem d_Model_readOne_83 : decode b_Model_readOne 83 = .ok (.aload_n 0, 1) := by decide +kernel
theorem d_Model_readOne_84 : decode b_Model_readOne 84 = .ok (.iload 5, 2) := by decide +kernel
theorem d_Model_readOne_86 : decode b_Model_readOne 86 = .ok (.iload_n 1, 1) := by decide +kernel
theorem d_Model_readOne_87 : decode b_Model_readOne 87 = .ok (.iload_n 2, 1) := by decide +kernel
theorem d_Model_readOne_88 : decode b_Model_readOne 88 = .ok (.iload_n 3, 1) := by decide +kernel
theorem d_Model_readOne_89 : decode b_Model_readOne 89 = .ok (.invokevirtual 145, 3) := by decide +kernel
theorem d_Model_readOne_92 : decode b_Model_readOne 92 = .ok (.ifCond .eq 8, 3) := by decide +kernel
theorem d_Model_readOne_95 : decode b_Model_readOne 95 = .ok (.iload 5, 2) := by decide +kernel
theorem d_Model_readOne_97 : decode b_Model_readOne 97 = .ok (.goto 5, 3) := by decide +kernel
theorem d_Model_readOne_100 : decode b_Model_readOne 100 = .ok (.iload 4, 2) := by decide +kernel
theorem d_Model_readOne_102 : decode b_Model_readOne 102 = .ok (.istore 4, 2) := by decide +kernel
theorem d_Model_readOne_104 : decode b_Model_readOne 104 = .ok (.iinc 5 1, 3) := by decide +kernel
theorem d_Model_readOne_107 : decode b_Model_readOne 107 = .ok (.goto (-101), 3) := by decide +kernel
theorem d_Model_readOne_110 : decode b_Model_readOne 110 = .ok (.iload 4, 2) := by decide +kernel
theorem d_Model_readOne_112 : decode b_Model_readOne 112 = .ok (.ifCond .ge 21, 3) := by decide +kernel
theorem d_Model_readOne_115 : decode b_Model_readOne 115 = .ok (.aload_n 0, 1) := by decide +kernel
theorem d_Model_readOne_116 : decode b_Model_readOne 116 = .ok (.aload_n 0, 1) := by decide +kernel
theorem d_Model_readOne_117 : decode b_Model_readOne 117 = .ok (.aload_n 0, 1) := by decide +kernel
theorem d_Model_readOne_118 : decode b_Model_readOne 118 = .ok (.getfield 39, 3) := by decide +kernel
theorem d_Model_readOne_121 : decode b_Model_readOne 121 = .ok (.iload_n 1, 1) := by decide +kernel
theorem d_Model_readOne_122 : decode b_Model_readOne 122 = .ok (.iaload, 1) := by decide +kernel
theorem d_Model_readOne_123 : decode b_Model_readOne 123 = .ok (.invokevirtual 149, 3) := by decide +kernel
theorem d_Model_readOne_126 : decode b_Model_readOne 126 = .ok (.invokevirtual 153, 3) := by decide +kernel
theorem d_Model_readOne_129 : decode b_Model_readOne 129 = .ok (.iload_n 1, 1) := by decide +kernel
theorem d_Model_readOne_130 : decode b_Model_readOne 130 = .ok (.iconst 1, 1) := by decide +kernel
theorem d_Model_readOne_131 : decode b_Model_readOne 131 = .ok (.iadd, 1) := by decide +kernel
theorem d_Model_readOne_132 : decode b_Model_readOne 132 = .ok (.ireturn, 1) := by decide +kernel
theorem d_Model_readOne_133 : decode b_Model_readOne 133 = .ok (.iconst 0, 1) := by decide +kernel
theorem d_Model_readOne_134 : decode b_Model_readOne 134 = .ok (.istore 5, 2) := by decide +kernel
theorem d_Model_readOne_136 : decode b_Model_readOne 136 = .ok (.iload 5, 2) := by decide +kernel
theorem d_Model_readOne_138 : decode b_Model_readOne 138 = .ok (.aload_n 0, 1) := by decide +kernel
theorem d_Model_readOne_139 : decode b_Model_readOne 139 = .ok (.getfield 17, 3) := by decide +kernel
theorem d_Model_readOne_142 : decode b_Model_readOne 142 = .ok (.iload 4, 2) := by decide +kernel
theorem d_Model_readOne_144 : decode b_Model_readOne 144 = .ok (.iaload, 1) := by decide +kernel
theorem d_Model_readOne_145 : decode b_Model_readOne 145 = .ok (.if_icmp .ge 26, 3) := by decide +kernel
theorem d_Model_readOne_148 : decode b_Model_readOne 148 = .ok (.aload_n 0, 1) := by decide +kernel
theorem d_Model_readOne_149 : decode b_Model_readOne 149 = .ok (.aload_n 0, 1) := by decide +kernel
theorem d_Model_readOne_150 : decode b_Model_readOne 150 = .ok (.getfield 20, 3) := by decide +kernel
theorem d_Model_readOne_153 : decode b_Model_readOne 153 = .ok (.bipush 6, 2) := by decide +kernel
theorem d_Model_readOne_155 : decode b_Model_readOne 155 = .ok (.iload 4, 2) := by decide +kernel
theorem d_Model_readOne_157 : decode b_Model_readOne 157 = .ok (.imul, 1) := by decide +kernel
theorem d_Model_readOne_158 : decode b_Model_readOne 158 = .ok (.iload 5, 2) := by decide +kernel
theorem d_Model_readOne_160 : decode b_Model_readOne 160 = .ok (.iadd, 1) := by decide +kernel
theorem d_Model_readOne_161 : decode b_Model_readOne 161 = .ok (.caload, 1) := by decide +kernel
theorem d_Model_readOne_162 : decode b_Model_readOne 162 = .ok (.invokevirtual 153, 3) := by decide +kernel
theorem d_Model_readOne_165 : decode b_Model_readOne 165 = .ok (.iinc 5 1, 3) := by decide +kernel
theorem d_Model_readOne_168 : decode b_Model_readOne 168 = .ok (.goto (-32), 3) := by decide +kernel
theorem d_Model_readOne_171 : decode b_Model_readOne 171 = .ok (.iload_n 1, 1) := by decide +kernel
theorem d_Model_readOne_172 : decode b_Model_readOne 172 = .ok (.aload_n 0, 1) := by decide +kernel
theorem d_Model_readOne_173 : decode b_Model_readOne 173 = .ok (.getfield 23, 3) := by decide +kernel
theorem d_Model_readOne_176 : decode b_Model_readOne 176 = .ok (.iload 4, 2) := by decide +kernel
theorem d_Model_readOne_178 : decode b_Model_readOne 178 = .ok (.iaload, 1) := by decide +kernel
theorem d_Model_readOne_179 : decode b_Model_readOne 179 = .ok (.iadd, 1) := by decide +kernel
theorem d_Model_readOne_180 : decode b_Model_readOne 180 = .ok (.ireturn, 1) := by decide +kernel
theorem d_Model_readPiece_0 : decode b_Model_readPiece 0 = .ok (.iload_n 1, 1) := by decide +kernel
theorem d_Model_readPiece_1 : decode b_Model_readPiece 1 = .ok (.istore_n 3, 1) := by decide +kernel
theorem d_Model_readPiece_2 : decode b_Model_readPiece 2 = .ok (.iload_n 3, 1) := by decide +kernel
theorem d_Model_readPiece_3 : decode b_Model_readPiece 3 = .ok (.iload_n 2, 1) := by decide +kernel
theorem d_Model_readPiece_4 : decode b_Model_readPiece 4 = .ok (.if_icmp .ge 20, 3) := by decide +kernel
theorem d_Model_readPiece_7 : decode b_Model_readPiece 7 = .ok (.aload_n 0, 1) := by decide +kernel
theorem d_Model_readPiece_8 : decode b_Model_readPiece 8 = .ok (.getfield 39, 3) := by decide +kernel
theorem d_Model_readPiece_11 : decode b_Model_readPiece 11 = .ok (.iload_n 3, 1) := by decide +kernel
theorem d_Model_readPiece_12 : decode b_Model_readPiece 12 = .ok (.iaload, 1) := by decide +kernel
theorem d_Model_readPiece_13 : decode b_Model_readPiece 13 = .ok (.bipush 32, 2) := by decide +kernel
theorem d_Model_readPiece_15 : decode b_Model_readPiece 15 = .ok (.if_icmp .ne 9, 3) := by decide +kernel
theorem d_Model_readPiece_18 : decode b_Model_readPiece 18 = .ok (.iinc 3 1, 3) := by decide +kernel
theorem d_Model_readPiece_21 : decode b_Model_readPiece 21 = .ok (.goto (-19), 3) := by decide +kernel
theorem d_Model_readPiece_24 : decode b_Model_readPiece 24 = .ok (.aload_n 0, 1) := by decide +kernel
theorem d_Model_readPiece_25 : decode b_Model_readPiece 25 = .ok (.iconst 0, 1) := by decide +kernel
theorem d_Model_readPiece_26 : decode b_Model_readPiece 26 = .ok (.putfield 139, 3) := by decide +kernel
theorem d_Model_readPiece_29 : decode b_Model_readPiece 29 = .ok (.iload_n 1, 1) := by decide +kernel
theorem d_Model_readPiece_30 : decode b_Model_readPiece 30 = .ok (.istore 4, 2) := by decide +kernel
theorem d_Model_readPiece_32 : decode b_Model_readPiece 32 = .ok (.iload 4, 2) := by decide +kernel
theorem d_Model_readPiece_34 : decode b_Model_readPiece 34 = .ok (.iload_n 2, 1) := by decide +kernel
theorem d_Model_readPiece_35 : decode b_Model_readPiece 35 = .ok (.if_icmp .ge 160, 3) := by decide +kernel
theorem d_Model_readPiece_38 : decode b_Model_readPiece 38 = .ok (.aload_n 0, 1) := by decide +kernel
theorem d_Model_readPiece_39 : decode b_Model_readPiece 39 = .ok (.getfield 39, 3) := by decide +kernel
theorem d_Model_readPiece_42 : decode b_Model_readPiece 42 = .ok (.iload 4, 2) := by decide +kernel
theorem d_Model_readPiece_44 : decode b_Model_readPiece 44 = .ok (.iaload, 1) := by decide +kernel
theorem d_Model_readPiece_45 : decode b_Model_readPiece 45 = .ok (.istore 5, 2) := by decide +kernel
theorem d_Model_readPiece_47 : decode b_Model_readPiece 47 = .ok (.iload 5, 2) := by decide +kernel
theorem d_Model_readPiece_49 : decode b_Model_readPiece 49 = .ok (.bipush 60, 2) := by decide +kernel
theorem d_Model_readPiece_51 : decode b_Model_readPiece 51 = .ok (.if_icmp .ne 51, 3) := by decide +kernel
theorem d_Model_readPiece_54 : decode b_Model_readPiece 54 = .ok (.iinc 4 1, 3) := by decide +kernel
theorem d_Model_readPiece_57 : decode b_Model_readPiece 57 = .ok (.iload 4, 2) := by decide +kernel
theorem d_Model_readPiece_59 : decode b_Model_readPiece 59 = .ok (.iload_n 2, 1) := by decide +kernel
theorem d_Model_readPiece_60 : decode b_Model_readPiece 60 = .ok (.if_icmp .ge 132, 3) := by decide +kernel
theorem d_Model_readPiece_63 : decode b_Model_readPiece 63 = .ok (.aload_n 0, 1) := by decide +kernel
theorem d_Model_readPiece_64 : decode b_Model_readPiece 64 = .ok (.aload_n 0, 1) := by decide +kernel
theorem d_Model_readPiece_65 : decode b_Model_readPiece 65 = .ok (.getfield 39, 3) := by decide +kernel
theorem d_Model_readPiece_68 : decode b_Model_readPiece 68 = .ok (.iload 4, 2) := by decide +kernel
theorem d_Model_readPiece_70 : decode b_Model_readPiece 70 = .ok (.iaload, 1) := by decide +kernel
theorem d_Model_readPiece_71 : decode b_Model_readPiece 71 = .ok (.invokevirtual 157, 3) := by decide +kernel
theorem d_Model_readPiece_74 : decode b_Model_readPiece 74 = .ok (.ifCond .lt 118, 3) := by decide +kernel
theorem d_Model_readPiece_77 : decode b_Model_readPiece 77 = .ok (.aload_n 0, 1) := by decide +kernel
theorem d_Model_readPiece_78 : decode b_Model_readPiece 78 = .ok (.bipush 48, 2) := by decide +kernel
theorem d_Model_readPiece_80 : decode b_Model_readPiece 80 = .ok (.aload_n 0, 1) := by decide +kernel
theorem d_Model_readPiece_81 : decode b_Model_readPiece 81 = .ok (.aload_n 0, 1) := by decide +kernel
theorem d_Model_readPiece_82 : decode b_Model_readPiece 82 = .ok (.getfield 39, 3) := by decide +kernel
theorem d_Model_readPiece_85 : decode b_Model_readPiece 85 = .ok (.iload 4, 2) := by decide +kernel
theorem d_Model_readPiece_87 : decode b_Model_readPiece 87 = .ok (.iaload, 1) := by decide +kernel
theorem d_Model_readPiece_88 : decode b_Model_readPiece 88 = .ok (.invokevirtual 157, 3) := by decide +kernel
theorem d_Model_readPiece_91 : decode b_Model_readPiece 91 = .ok (.iadd, 1) := by decide +kernel
theorem d_Model_readPiece_92 : decode b_Model_readPiece 92 = .ok (.i2c, 1) := by decide +kernel
theorem d_Model_readPiece_93 : decode b_Model_readPiece 93 = .ok (.invokevirtual 153, 3) := by decide +kernel
theorem d_Model_readPiece_96 : decode b_Model_readPiece 96 = .ok (.iinc 4 1, 3) := by decide +kernel
theorem d_Model_readPiece_99 : decode b_Model_readPiece 99 = .ok (.goto (-42), 3) := by decide +kernel
theorem d_Model_readPiece_102 : decode b_Model_readPiece 102 = .ok (.iload 5, 2) := by decide +kernel
theorem d_Model_readPiece_104 : decode b_Model_readPiece 104 = .ok (.bipush 48, 2) := by decide +kernel
theorem d_Model_readPiece_106 : decode b_Model_readPiece 106 = .ok (.if_icmp .ne 9, 3) := by decide +kernel
theorem d_Model_readPiece_109 : decode b_Model_readPiece 109 = .ok (.iinc 4 1, 3) := by decide +kernel
theorem d_Model_readPiece_112 : decode b_Model_readPiece 112 = .ok (.goto 80, 3) := by decide +kernel
theorem d_Model_readPiece_115 : decode b_Model_readPiece 115 = .ok (.iload 5, 2) := by decide +kernel
theorem d_Model_readPiece_117 : decode b_Model_readPiece 117 = .ok (.bipush 32, 2) := by decide +kernel
theorem d_Model_readPiece_119 : decode b_Model_readPiece 119 = .ok (.if_icmp .ne 63, 3) := by decide +kernel
theorem d_Model_readPiece_122 : decode b_Model_readPiece 122 = .ok (.iconst 0, 1) := by decide +kernel
theorem d_Model_readPiece_123 : decode b_Model_readPiece 123 = .ok (.istore 6, 2) := by decide +kernel
theorem d_Model_readPiece_125 : decode b_Model_readPiece 125 = .ok (.iload 4, 2) := by decide +kernel
theorem d_Model_readPiece_127 : decode b_Model_readPiece 127 = .ok (.iload_n 2, 1) := by decide +kernel
theorem d_Model_readPiece_128 : decode b_Model_readPiece 128 = .ok (.if_icmp .ge 24, 3) := by decide +kernel
theorem d_Model_readPiece_131 : decode b_Model_readPiece 131 = .ok (.aload_n 0, 1) := by decide +kernel
theorem d_Model_readPiece_132 : decode b_Model_readPiece 132 = .ok (.getfield 39, 3) := by decide +kernel
theorem d_Model_readPiece_135 : decode b_Model_readPiece 135 = .ok (.iload 4, 2) := by decide +kernel
theorem d_Model_readPiece_137 : decode b_Model_readPiece 137 = .ok (.iaload, 1) := by decide +kernel
theorem d_Model_readPiece_138 : decode b_Model_readPiece 138 = .ok (.bipush 32, 2) := by decide +kernel
theorem d_Model_readPiece_140 : decode b_Model_readPiece 140 = .ok (.if_icmp .ne 12, 3) := by decide +kernel
theorem d_Model_readPiece_143 : decode b_Model_readPiece 143 = .ok (.iinc 4 1, 3) := by decide +kernel
theorem d_Model_readPiece_146 : decode b_Model_readPiece 146 = .ok (.iinc 6 1, 3) := by decide +kernel
theorem d_Model_readPiece_149 : decode b_Model_readPiece 149 = .ok (.goto (-24), 3) := by decide +kernel
theorem d_Model_readPiece_152 : decode b_Model_readPiece 152 = .ok (.aload_n 0, 1) := by decide +kernel
theorem d_Model_readPiece_153 : decode b_Model_readPiece 153 = .ok (.iload 6, 2) := by decide +kernel
theorem d_Model_readPiece_155 : decode b_Model_readPiece 155 = .ok (.iconst 1, 1) := by decide +kernel
theorem d_Model_readPiece_156 : decode b_Model_readPiece 156 = .ok (.if_icmp .le 7, 3) := by decide +kernel
theorem d_Model_readPiece_159 : decode b_Model_readPiece 159 = .ok (.iconst 2, 1) := by decide +kernel
theorem d_Model_readPiece_160 : decode b_Model_readPiece 160 = .ok (.goto 16, 3) := by decide +kernel
theorem d_Model_readPiece_163 : decode b_Model_readPiece 163 = .ok (.aload_n 0, 1) := by decide +kernel
theorem d_Model_readPiece_164 : decode b_Model_readPiece 164 = .ok (.getfield 139, 3) := by decide +kernel
theorem d_Model_readPiece_167 : decode b_Model_readPiece 167 = .ok (.iconst 2, 1) := by decide +kernel
theorem d_Model_readPiece_168 : decode b_Model_readPiece 168 = .ok (.if_icmp .ne 7, 3) := by decide +kernel
theorem d_Model_readPiece_171 : decode b_Model_readPiece 171 = .ok (.iconst 2, 1) := by decide +kernel
theorem d_Model_readPiece_172 : decode b_Model_readPiece 172 = .ok (.goto 4, 3) := by decide +kernel
theorem d_Model_readPiece_175 : decode b_Model_readPiece 175 = .ok (.iconst 1, 1) := by decide +kernel
theorem d_Model_readPiece_176 : decode b_Model_readPiece 176 = .ok (.putfield 139, 3) := by decide +kernel
theorem d_Model_readPiece_179 : decode b_Model_readPiece 179 = .ok (.goto 13, 3) := by decide +kernel
theorem d_Model_readPiece_182 : decode b_Model_readPiece 182 = .ok (.aload_n 0, 1) := by decide +kernel
theorem d_Model_readPiece_183 : decode b_Model_readPiece 183 = .ok (.iload 4, 2) := by decide +kernel
theorem d_Model_readPiece_185 : decode b_Model_readPiece 185 = .ok (.iload_n 3, 1) := by decide +kernel
theorem d_Model_readPiece_186 : decode b_Model_readPiece 186 = .ok (.iload_n 2, 1) := by decide +kernel
theorem d_Model_readPiece_187 : decode b_Model_readPiece 187 = .ok (.invokevirtual 160, 3) := by decide +kernel
theorem d_Model_readPiece_190 : decode b_Model_readPiece 190 = .ok (.istore 4, 2) := by decide +kernel
theorem d_Model_readPiece_192 : decode b_Model_readPiece 192 = .ok (.goto (-160), 3) := by decide +kernel
theorem d_Model_readPiece_195 : decode b_Model_readPiece 195 = .ok (.return_, 1) := by decide +kernel
theorem d_Model_back_0 : decode b_Model_back 0 = .ok (.aload_n 0, 1) := by decide +kernel
theorem d_Model_back_1 : decode b_Model_back 1 = .ok (.aload_n 0, 1) := by decide +kernel
theorem d_Model_back_2 : decode b_Model_back 2 = .ok (.iload_n 1, 1) := by decide +kernel
theorem d_Model_back_3 : decode b_Model_back 3 = .ok (.invokevirtual 135, 3) := by decide +kernel
theorem d_Model_back_6 : decode b_Model_back 6 = .ok (.ifCond .eq 7, 3) := by decide +kernel
theorem d_Model_back_9 : decode b_Model_back 9 = .ok (.iconst 1, 1) := by decide +kernel
theorem d_Model_back_10 : decode b_Model_back 10 = .ok (.goto 4, 3) := by decide +kernel
theorem d_Model_back_13 : decode b_Model_back 13 = .ok (.iconst 0, 1) := by decide +kernel
theorem d_Model_back_14 : decode b_Model_back 14 = .ok (.putfield 63, 3) := by decide +kernel
theorem d_Model_back_17 : decode b_Model_back 17 = .ok (.aload_n 0, 1) := by decide +kernel
theorem d_Model_back_18 : decode b_Model_back 18 = .ok (.getfield 63, 3) := by decide +kernel
theorem d_Model_back_21 : decode b_Model_back 21 = .ok (.ifCond .eq 5, 3) := by decide +kernel
theorem d_Model_back_24 : decode b_Model_back 24 = .ok (.iconst 0, 1) := by decide +kernel
theorem d_Model_back_25 : decode b_Model_back 25 = .ok (.ireturn, 1) := by decide +kernel
theorem d_Model_back_26 : decode b_Model_back 26 = .ok (.aload_n 0, 1) := by decide +kernel
theorem d_Model_back_27 : decode b_Model_back 27 = .ok (.iconst 0, 1) := by decide +kernel
theorem d_Model_back_28 : decode b_Model_back 28 = .ok (.putfield 142, 3) := by decide +kernel
theorem d_Model_back_31 : decode b_Model_back 31 = .ok (.sipush 240, 3) := by decide +kernel
theorem d_Model_back_34 : decode b_Model_back 34 = .ok (.iload_n 1, 1) := by decide +kernel
theorem d_Model_back_35 : decode b_Model_back 35 = .ok (.imul, 1) := by decide +kernel
theorem d_Model_back_36 : decode b_Model_back 36 = .ok (.istore_n 2, 1) := by decide +kernel
theorem d_Model_back_37 : decode b_Model_back 37 = .ok (.iload_n 2, 1) := by decide +kernel
theorem d_Model_back_38 : decode b_Model_back 38 = .ok (.aload_n 0, 1) := by decide +kernel
theorem d_Model_back_39 : decode b_Model_back 39 = .ok (.getfield 36, 3) := by decide +kernel
theorem d_Model_back_42 : decode b_Model_back 42 = .ok (.iload_n 1, 1) := by decide +kernel
theorem d_Model_back_43 : decode b_Model_back 43 = .ok (.iaload, 1) := by decide +kernel
theorem d_Model_back_44 : decode b_Model_back 44 = .ok (.iadd, 1) := by decide +kernel
theorem d_Model_back_45 : decode b_Model_back 45 = .ok (.istore_n 3, 1) := by decide +kernel
theorem d_Model_back_46 : decode b_Model_back 46 = .ok (.iload_n 2, 1) := by decide +kernel
theorem d_Model_back_47 : decode b_Model_back 47 = .ok (.iload_n 3, 1) := by decide +kernel
theorem d_Model_back_48 : decode b_Model_back 48 = .ok (.if_icmp .ge 62, 3) := by decide +kernel
theorem d_Model_back_51 : decode b_Model_back 51 = .ok (.aload_n 0, 1) := by decide +kernel
theorem d_Model_back_52 : decode b_Model_back 52 = .ok (.getfield 39, 3) := by decide +kernel
theorem d_Model_back_55 : decode b_Model_back 55 = .ok (.iload_n 2, 1) := by decide +kernel
theorem d_Model_back_56 : decode b_Model_back 56 = .ok (.iaload, 1) := by decide +kernel
theorem d_Model_back_57 : decode b_Model_back 57 = .ok (.ifCond .ne 15, 3) := by decide +kernel
theorem d_Model_back_60 : decode b_Model_back 60 = .ok (.aload_n 0, 1) := by decide +kernel
theorem d_Model_back_61 : decode b_Model_back 61 = .ok (.bipush 32, 2) := by decide +kernel
theorem d_Model_back_63 : decode b_Model_back 63 = .ok (.invokevirtual 153, 3) := by decide +kernel
theorem d_Model_back_66 : decode b_Model_back 66 = .ok (.iinc 2 1, 3) := by decide +kernel
theorem d_Model_back_69 : decode b_Model_back 69 = .ok (.goto (-23), 3) := by decide +kernel
theorem d_Model_back_72 : decode b_Model_back 72 = .ok (.iload_n 2, 1) := by decide +kernel
theorem d_Model_back_73 : decode b_Model_back 73 = .ok (.istore 4, 2) := by decide +kernel
theorem d_Model_back_75 : decode b_Model_back 75 = .ok (.iload 4, 2) := by decide +kernel
theorem d_Model_back_77 : decode b_Model_back 77 = .ok (.iload_n 3, 1) := by decide +kernel
theorem d_Model_back_78 : decode b_Model_back 78 = .ok (.if_icmp .ge 19, 3) := by decide +kernel
theorem d_Model_back_81 : decode b_Model_back 81 = .ok (.aload_n 0, 1) := by decide +kernel
theorem d_Model_back_82 : decode b_Model_back 82 = .ok (.getfield 39, 3) := by decide +kernel
theorem d_Model_back_85 : decode b_Model_back 85 = .ok (.iload 4, 2) := by decide +kernel
theorem d_Model_back_87 : decode b_Model_back 87 = .ok (.iaload, 1) := by decide +kernel
theorem d_Model_back_88 : decode b_Model_back 88 = .ok (.ifCond .eq 9, 3) := by decide +kernel
theorem d_Model_back_91 : decode b_Model_back 91 = .ok (.iinc 4 1, 3) := by decide +kernel
theorem d_Model_back_94 : decode b_Model_back 94 = .ok (.goto (-19), 3) := by decide +kernel
theorem d_Model_back_97 : decode b_Model_back 97 = .ok (.aload_n 0, 1) := by decide +kernel
theorem d_Model_back_98 : decode b_Model_back 98 = .ok (.iload_n 2, 1) := by decide +kernel
theorem d_Model_back_99 : decode b_Model_back 99 = .ok (.iload 4, 2) := by decide +kernel
theorem d_Model_back_101 : decode b_Model_back 101 = .ok (.invokevirtual 164, 3) := by decide +kernel
theorem d_Model_back_104 : decode b_Model_back 104 = .ok (.iload 4, 2) := by decide +kernel
theorem d_Model_back_106 : decode b_Model_back 106 = .ok (.istore_n 2, 1) := by decide +kernel
theorem d_Model_back_107 : decode b_Model_back 107 = .ok (.goto (-61), 3) := by decide +kernel
theorem d_Model_back_110 : decode b_Model_back 110 = .ok (.aload_n 0, 1) := by decide +kernel
theorem d_Model_back_111 : decode b_Model_back 111 = .ok (.getfield 142, 3) := by decide +kernel
theorem d_Model_back_114 : decode b_Model_back 114 = .ok (.ireturn, 1) := by decide +kernel
theorem d_Model_heard_0 : decode b_Model_heard 0 = .ok (.aload_n 0, 1) := by decide +kernel
theorem d_Model_heard_1 : decode b_Model_heard 1 = .ok (.iconst 0, 1) := by decide +kernel
theorem d_Model_heard_2 : decode b_Model_heard 2 = .ok (.putfield 63, 3) := by decide +kernel
theorem d_Model_heard_5 : decode b_Model_heard 5 = .ok (.iload_n 1, 1) := by decide +kernel
theorem d_Model_heard_6 : decode b_Model_heard 6 = .ok (.ifCond .lt 11, 3) := by decide +kernel
theorem d_Model_heard_9 : decode b_Model_heard 9 = .ok (.iload_n 1, 1) := by decide +kernel
theorem d_Model_heard_10 : decode b_Model_heard 10 = .ok (.aload_n 0, 1) := by decide +kernel
theorem d_Model_heard_11 : decode b_Model_heard 11 = .ok (.getfield 142, 3) := by decide +kernel
theorem d_Model_heard_14 : decode b_Model_heard 14 = .ok (.if_icmp .lt 8, 3) := by decide +kernel
theorem d_Model_heard_17 : decode b_Model_heard 17 = .ok (.bipush 32, 2) := by decide +kernel
theorem d_Model_heard_19 : decode b_Model_heard 19 = .ok (.goto 9, 3) := by decide +kernel
theorem d_Model_heard_22 : decode b_Model_heard 22 = .ok (.aload_n 0, 1) := by decide +kernel
theorem d_Model_heard_23 : decode b_Model_heard 23 = .ok (.getfield 45, 3) := by decide +kernel
theorem d_Model_heard_26 : decode b_Model_heard 26 = .ok (.iload_n 1, 1) := by decide +kernel
theorem d_Model_heard_27 : decode b_Model_heard 27 = .ok (.caload, 1) := by decide +kernel
theorem d_Model_heard_28 : decode b_Model_heard 28 = .ok (.ireturn, 1) := by decide +kernel
theorem d_Model_putLine_0 : decode b_Model_putLine 0 = .ok (.aload_n 0, 1) := by decide +kernel
theorem d_Model_putLine_1 : decode b_Model_putLine 1 = .ok (.getfield 167, 3) := by decide +kernel
theorem d_Model_putLine_4 : decode b_Model_putLine 4 = .ok (.aload_n 0, 1) := by decide +kernel
theorem d_Model_putLine_5 : decode b_Model_putLine 5 = .ok (.getfield 60, 3) := by decide +kernel
theorem d_Model_putLine_8 : decode b_Model_putLine 8 = .ok (.iconst 1, 1) := by decide +kernel
theorem d_Model_putLine_9 : decode b_Model_putLine 9 = .ok (.isub, 1) := by decide +kernel
theorem d_Model_putLine_10 : decode b_Model_putLine 10 = .ok (.if_icmp .ne 18, 3) := by decide +kernel
theorem d_Model_putLine_13 : decode b_Model_putLine 13 = .ok (.aload_n 0, 1) := by decide +kernel
theorem d_Model_putLine_14 : decode b_Model_putLine 14 = .ok (.dup, 1) := by decide +kernel
theorem d_Model_putLine_15 : decode b_Model_putLine 15 = .ok (.getfield 170, 3) := by decide +kernel
theorem d_Model_putLine_18 : decode b_Model_putLine 18 = .ok (.iconst 1, 1) := by decide +kernel
theorem d_Model_putLine_19 : decode b_Model_putLine 19 = .ok (.iadd, 1) := by decide +kernel
theorem d_Model_putLine_20 : decode b_Model_putLine 20 = .ok (.putfield 170, 3) := by decide +kernel
theorem d_Model_putLine_23 : decode b_Model_putLine 23 = .ok (.aload_n 0, 1) := by decide +kernel
theorem d_Model_putLine_24 : decode b_Model_putLine 24 = .ok (.iconst 0, 1) := by decide +kernel
theorem d_Model_putLine_25 : decode b_Model_putLine 25 = .ok (.putfield 167, 3) := by decide +kernel
theorem d_Model_putLine_28 : decode b_Model_putLine 28 = .ok (.aload_n 0, 1) := by decide +kernel
theorem d_Model_putLine_29 : decode b_Model_putLine 29 = .ok (.getfield 54, 3) := by decide +kernel
theorem d_Model_putLine_32 : decode b_Model_putLine 32 = .ok (.iload_n 1, 1) := by decide +kernel
theorem d_Model_putLine_33 : decode b_Model_putLine 33 = .ok (.iaload, 1) := by decide +kernel
theorem d_Model_putLine_34 : decode b_Model_putLine 34 = .ok (.ifCond .ge 21, 3) := by decide +kernel
theorem d_Model_putLine_37 : decode b_Model_putLine 37 = .ok (.aload_n 0, 1) := by decide +kernel
theorem d_Model_putLine_38 : decode b_Model_putLine 38 = .ok (.getfield 54, 3) := by decide +kernel
theorem d_Model_putLine_41 : decode b_Model_putLine 41 = .ok (.iload_n 1, 1) := by decide +kernel
theorem d_Model_putLine_42 : decode b_Model_putLine 42 = .ok (.bipush 32, 2) := by decide +kernel
theorem d_Model_putLine_44 : decode b_Model_putLine 44 = .ok (.aload_n 0, 1) := by decide +kernel
theorem d_Model_putLine_45 : decode b_Model_putLine 45 = .ok (.getfield 170, 3) := by decide +kernel
theorem d_Model_putLine_48 : decode b_Model_putLine 48 = .ok (.imul, 1) := by decide +kernel
theorem d_Model_putLine_49 : decode b_Model_putLine 49 = .ok (.aload_n 0, 1) := by decide +kernel
theorem d_Model_putLine_50 : decode b_Model_putLine 50 = .ok (.getfield 167, 3) := by decide +kernel
theorem d_Model_putLine_53 : decode b_Model_putLine 53 = .ok (.iadd, 1) := by decide +kernel
theorem d_Model_putLine_54 : decode b_Model_putLine 54 = .ok (.iastore, 1) := by decide +kernel
theorem d_Model_putLine_55 : decode b_Model_putLine 55 = .ok (.aload_n 0, 1) := by decide +kernel
theorem d_Model_putLine_56 : decode b_Model_putLine 56 = .ok (.getfield 33, 3) := by decide +kernel
theorem d_Model_putLine_59 : decode b_Model_putLine 59 = .ok (.iload_n 1, 1) := by decide +kernel
theorem d_Model_putLine_60 : decode b_Model_putLine 60 = .ok (.iaload, 1) := by decide +kernel
theorem d_Model_putLine_61 : decode b_Model_putLine 61 = .ok (.iconst 1, 1) := by decide +kernel
theorem d_Model_putLine_62 : decode b_Model_putLine 62 = .ok (.if_icmp .ne 17, 3) := by decide +kernel
theorem d_Model_putLine_65 : decode b_Model_putLine 65 = .ok (.aload_n 0, 1) := by decide +kernel
theorem d_Model_putLine_66 : decode b_Model_putLine 66 = .ok (.getfield 57, 3) := by decide +kernel
theorem d_Model_putLine_69 : decode b_Model_putLine 69 = .ok (.aload_n 0, 1) := by decide +kernel
theorem d_Model_putLine_70 : decode b_Model_putLine 70 = .ok (.getfield 173, 3) := by decide +kernel
theorem d_Model_putLine_73 : decode b_Model_putLine 73 = .ok (.isub, 1) := by decide +kernel
theorem d_Model_putLine_74 : decode b_Model_putLine 74 = .ok (.iconst 2, 1) := by decide +kernel
theorem d_Model_putLine_75 : decode b_Model_putLine 75 = .ok (.idiv, 1) := by decide +kernel
theorem d_Model_putLine_76 : decode b_Model_putLine 76 = .ok (.goto 4, 3) := by decide +kernel
theorem d_Model_putLine_79 : decode b_Model_putLine 79 = .ok (.iload_n 2, 1) := by decide +kernel
theorem d_Model_putLine_80 : decode b_Model_putLine 80 = .ok (.istore_n 3, 1) := by decide +kernel
theorem d_Model_putLine_81 : decode b_Model_putLine 81 = .ok (.iconst 0, 1) := by decide +kernel
theorem d_Model_putLine_82 : decode b_Model_putLine 82 = .ok (.istore 4, 2) := by decide +kernel
theorem d_Model_putLine_84 : decode b_Model_putLine 84 = .ok (.iload 4, 2) := by decide +kernel
theorem d_Model_putLine_86 : decode b_Model_putLine 86 = .ok (.aload_n 0, 1) := by decide +kernel
theorem d_Model_putLine_87 : decode b_Model_putLine 87 = .ok (.getfield 173, 3) := by decide +kernel
theorem d_Model_putLine_90 : decode b_Model_putLine 90 = .ok (.if_icmp .ge 47, 3) := by decide +kernel
theorem d_Model_putLine_93 : decode b_Model_putLine 93 = .ok (.aload_n 0, 1) := by decide +kernel
theorem d_Model_putLine_94 : decode b_Model_putLine 94 = .ok (.getfield 170, 3) := by decide +kernel
theorem d_Model_putLine_97 : decode b_Model_putLine 97 = .ok (.aload_n 0, 1) := by decide +kernel
theorem d_Model_putLine_98 : decode b_Model_putLine 98 = .ok (.getfield 176, 3) := by decide +kernel
theorem d_Model_putLine_101 : decode b_Model_putLine 101 = .ok (.if_icmp .ne 36, 3) := by decide +kernel
theorem d_Model_putLine_104 : decode b_Model_putLine 104 = .ok (.aload_n 0, 1) := by decide +kernel
theorem d_Model_putLine_105 : decode b_Model_putLine 105 = .ok (.getfield 167, 3) := by decide +kernel
theorem d_Model_putLine_108 : decode b_Model_putLine 108 = .ok (.aload_n 0, 1) := by decide +kernel
theorem d_Model_putLine_109 : decode b_Model_putLine 109 = .ok (.getfield 179, 3) := by decide +kernel
theorem d_Model_putLine_112 : decode b_Model_putLine 112 = .ok (.if_icmp .ne 25, 3) := by decide +kernel
theorem d_Model_putLine_115 : decode b_Model_putLine 115 = .ok (.aload_n 0, 1) := by decide +kernel
theorem d_Model_putLine_116 : decode b_Model_putLine 116 = .ok (.getfield 51, 3) := by decide +kernel
theorem d_Model_putLine_119 : decode b_Model_putLine 119 = .ok (.iload_n 3, 1) := by decide +kernel
theorem d_Model_putLine_120 : decode b_Model_putLine 120 = .ok (.iload 4, 2) := by decide +kernel
theorem d_Model_putLine_122 : decode b_Model_putLine 122 = .ok (.iadd, 1) := by decide +kernel
theorem d_Model_putLine_123 : decode b_Model_putLine 123 = .ok (.aload_n 0, 1) := by decide +kernel
theorem d_Model_putLine_124 : decode b_Model_putLine 124 = .ok (.getfield 48, 3) := by decide +kernel
theorem d_Model_putLine_127 : decode b_Model_putLine 127 = .ok (.iload 4, 2) := by decide +kernel
theorem d_Model_putLine_129 : decode b_Model_putLine 129 = .ok (.iaload, 1) := by decide +kernel
theorem d_Model_putLine_130 : decode b_Model_putLine 130 = .ok (.iastore, 1) := by decide +kernel
theorem d_Model_putLine_131 : decode b_Model_putLine 131 = .ok (.iinc 4 1, 3) := by decide +kernel
theorem d_Model_putLine_134 : decode b_Model_putLine 134 = .ok (.goto (-50), 3) := by decide +kernel
theorem d_Model_putLine_137 : decode b_Model_putLine 137 = .ok (.aload_n 0, 1) := by decide +kernel
theorem d_Model_putLine_138 : decode b_Model_putLine 138 = .ok (.aload_n 0, 1) := by decide +kernel
theorem d_Model_putLine_139 : decode b_Model_putLine 139 = .ok (.getfield 170, 3) := by decide +kernel
theorem d_Model_putLine_142 : decode b_Model_putLine 142 = .ok (.putfield 182, 3) := by decide +kernel
theorem d_Model_putLine_145 : decode b_Model_putLine 145 = .ok (.aload_n 0, 1) := by decide +kernel
theorem d_Model_putLine_146 : decode b_Model_putLine 146 = .ok (.dup, 1) := by decide +kernel
theorem d_Model_putLine_147 : decode b_Model_putLine 147 = .ok (.getfield 167, 3) := by decide +kernel
theorem d_Model_putLine_150 : decode b_Model_putLine 150 = .ok (.iconst 1, 1) := by decide +kernel
theorem d_Model_putLine_151 : decode b_Model_putLine 151 = .ok (.iadd, 1) := by decide +kernel
theorem d_Model_putLine_152 : decode b_Model_putLine 152 = .ok (.putfield 167, 3) := by decide +kernel
theorem d_Model_putLine_155 : decode b_Model_putLine 155 = .ok (.aload_n 0, 1) := by decide +kernel
theorem d_Model_putLine_156 : decode b_Model_putLine 156 = .ok (.iconst 0, 1) := by decide +kernel
theorem d_Model_putLine_157 : decode b_Model_putLine 157 = .ok (.putfield 173, 3) := by decide +kernel
theorem d_Model_putLine_160 : decode b_Model_putLine 160 = .ok (.return_, 1) := by decide +kernel
theorem d_Model_indentOf_0 : decode b_Model_indentOf 0 = .ok (.iload_n 1, 1) := by decide +kernel
theorem d_Model_indentOf_1 : decode b_Model_indentOf 1 = .ok (.ifCond .ne 11, 3) := by decide +kernel
theorem d_Model_indentOf_4 : decode b_Model_indentOf 4 = .ok (.iload_n 2, 1) := by decide +kernel
theorem d_Model_indentOf_5 : decode b_Model_indentOf 5 = .ok (.ifCond .ne 7, 3) := by decide +kernel
theorem d_Model_indentOf_8 : decode b_Model_indentOf 8 = .ok (.iconst 2, 1) := by decide +kernel
theorem d_Model_indentOf_9 : decode b_Model_indentOf 9 = .ok (.goto 17, 3) := by decide +kernel
theorem d_Model_indentOf_12 : decode b_Model_indentOf 12 = .ok (.iload_n 1, 1) := by decide +kernel
theorem d_Model_indentOf_13 : decode b_Model_indentOf 13 = .ok (.iconst 2, 1) := by decide +kernel
theorem d_Model_indentOf_14 : decode b_Model_indentOf 14 = .ok (.if_icmp .ne 11, 3) := by decide +kernel
theorem d_Model_indentOf_17 : decode b_Model_indentOf 17 = .ok (.iload_n 2, 1) := by decide +kernel
theorem d_Model_indentOf_18 : decode b_Model_indentOf 18 = .ok (.ifCond .le 7, 3) := by decide +kernel
theorem d_Model_indentOf_21 : decode b_Model_indentOf 21 = .ok (.iconst 4, 1) := by decide +kernel
theorem d_Model_indentOf_22 : decode b_Model_indentOf 22 = .ok (.goto 4, 3) := by decide +kernel
theorem d_Model_indentOf_25 : decode b_Model_indentOf 25 = .ok (.iconst 0, 1) := by decide +kernel
theorem d_Model_indentOf_26 : decode b_Model_indentOf 26 = .ok (.ireturn, 1) := by decide +kernel
theorem d_Model_lay_0 : decode b_Model_lay 0 = .ok (.iconst 0, 1) := by decide +kernel
theorem d_Model_lay_1 : decode b_Model_lay 1 = .ok (.istore_n 3, 1) := by decide +kernel
theorem d_Model_lay_2 : decode b_Model_lay 2 = .ok (.aload_n 0, 1) := by decide +kernel
theorem d_Model_lay_3 : decode b_Model_lay 3 = .ok (.iconst 0, 1) := by decide +kernel
theorem d_Model_lay_4 : decode b_Model_lay 4 = .ok (.putfield 173, 3) := by decide +kernel
theorem d_Model_lay_7 : decode b_Model_lay 7 = .ok (.sipush 240, 3) := by decide +kernel
theorem d_Model_lay_10 : decode b_Model_lay 10 = .ok (.iload_n 1, 1) := by decide +kernel
theorem d_Model_lay_11 : decode b_Model_lay 11 = .ok (.imul, 1) := by decide +kernel
theorem d_Model_lay_12 : decode b_Model_lay 12 = .ok (.istore 4, 2) := by decide +kernel
theorem d_Model_lay_14 : decode b_Model_lay 14 = .ok (.iload 4, 2) := by decide +kernel
theorem d_Model_lay_16 : decode b_Model_lay 16 = .ok (.aload_n 0, 1) := by decide +kernel
theorem d_Model_lay_17 : decode b_Model_lay 17 = .ok (.getfield 36, 3) := by decide +kernel
theorem d_Model_lay_20 : decode b_Model_lay 20 = .ok (.iload_n 1, 1) := by decide +kernel
theorem d_Model_lay_21 : decode b_Model_lay 21 = .ok (.iaload, 1) := by decide +kernel
theorem d_Model_lay_22 : decode b_Model_lay 22 = .ok (.iadd, 1) := by decide +kernel
theorem d_Model_lay_23 : decode b_Model_lay 23 = .ok (.istore 5, 2) := by decide +kernel
theorem d_Model_lay_25 : decode b_Model_lay 25 = .ok (.iload 4, 2) := by decide +kernel
theorem d_Model_lay_27 : decode b_Model_lay 27 = .ok (.iload 5, 2) := by decide +kernel
theorem d_Model_lay_29 : decode b_Model_lay 29 = .ok (.if_icmp .ge 212, 3) := by decide +kernel
theorem d_Model_lay_32 : decode b_Model_lay 32 = .ok (.iload 4, 2) := by decide +kernel
theorem d_Model_lay_34 : decode b_Model_lay 34 = .ok (.istore 6, 2) := by decide +kernel
theorem d_Model_lay_36 : decode b_Model_lay 36 = .ok (.iload 6, 2) := by decide +kernel
theorem d_Model_lay_38 : decode b_Model_lay 38 = .ok (.iload 5, 2) := by decide +kernel
theorem d_Model_lay_40 : decode b_Model_lay 40 = .ok (.if_icmp .ge 19, 3) := by decide +kernel
theorem d_Model_lay_43 : decode b_Model_lay 43 = .ok (.aload_n 0, 1) := by decide +kernel
theorem d_Model_lay_44 : decode b_Model_lay 44 = .ok (.getfield 39, 3) := by decide +kernel
theorem d_Model_lay_47 : decode b_Model_lay 47 = .ok (.iload 6, 2) := by decide +kernel
theorem d_Model_lay_49 : decode b_Model_lay 49 = .ok (.iaload, 1) := by decide +kernel
theorem d_Model_lay_50 : decode b_Model_lay 50 = .ok (.ifCond .eq 9, 3) := by decide +kernel
theorem d_Model_lay_53 : decode b_Model_lay 53 = .ok (.iinc 6 1, 3) := by decide +kernel
theorem d_Model_lay_56 : decode b_Model_lay 56 = .ok (.goto (-20), 3) := by decide +kernel
theorem d_Model_lay_59 : decode b_Model_lay 59 = .ok (.iload 4, 2) := by decide +kernel
theorem d_Model_lay_61 : decode b_Model_lay 61 = .ok (.iload 6, 2) := by decide +kernel
theorem d_Model_lay_63 : decode b_Model_lay 63 = .ok (.if_icmp .ge 172, 3) := by decide +kernel
theorem d_Model_lay_66 : decode b_Model_lay 66 = .ok (.aload_n 0, 1) := by decide +kernel
theorem d_Model_lay_67 : decode b_Model_lay 67 = .ok (.getfield 57, 3) := by decide +kernel
theorem d_Model_lay_70 : decode b_Model_lay 70 = .ok (.aload_n 0, 1) := by decide +kernel
theorem d_Model_lay_71 : decode b_Model_lay 71 = .ok (.aload_n 0, 1) := by decide +kernel
theorem d_Model_lay_72 : decode b_Model_lay 72 = .ok (.getfield 33, 3) := by decide +kernel
theorem d_Model_lay_75 : decode b_Model_lay 75 = .ok (.iload_n 1, 1) := by decide +kernel
theorem d_Model_lay_76 : decode b_Model_lay 76 = .ok (.iaload, 1) := by decide +kernel
theorem d_Model_lay_77 : decode b_Model_lay 77 = .ok (.iload_n 3, 1) := by decide +kernel
theorem d_Model_lay_78 : decode b_Model_lay 78 = .ok (.invokevirtual 185, 3) := by decide +kernel
theorem d_Model_lay_81 : decode b_Model_lay 81 = .ok (.isub, 1) := by decide +kernel
theorem d_Model_lay_82 : decode b_Model_lay 82 = .ok (.istore 7, 2) := by decide +kernel
theorem d_Model_lay_84 : decode b_Model_lay 84 = .ok (.aload_n 0, 1) := by decide +kernel
theorem d_Model_lay_85 : decode b_Model_lay 85 = .ok (.getfield 173, 3) := by decide +kernel
theorem d_Model_lay_88 : decode b_Model_lay 88 = .ok (.ifCond .ne 11, 3) := by decide +kernel
theorem d_Model_lay_91 : decode b_Model_lay 91 = .ok (.iload 6, 2) := by decide +kernel
theorem d_Model_lay_93 : decode b_Model_lay 93 = .ok (.iload 4, 2) := by decide +kernel
theorem d_Model_lay_95 : decode b_Model_lay 95 = .ok (.isub, 1) := by decide +kernel
theorem d_Model_lay_96 : decode b_Model_lay 96 = .ok (.goto 15, 3) := by decide +kernel
theorem d_Model_lay_99 : decode b_Model_lay 99 = .ok (.aload_n 0, 1) := by decide +kernel
theorem d_Model_lay_100 : decode b_Model_lay 100 = .ok (.getfield 173, 3) := by decide +kernel
theorem d_Model_lay_103 : decode b_Model_lay 103 = .ok (.iconst 1, 1) := by decide +kernel
theorem d_Model_lay_104 : decode b_Model_lay 104 = .ok (.iadd, 1) := by decide +kernel
theorem d_Model_lay_105 : decode b_Model_lay 105 = .ok (.iload 6, 2) := by decide +kernel
theorem d_Model_lay_107 : decode b_Model_lay 107 = .ok (.iadd, 1) := by decide +kernel
theorem d_Model_lay_108 : decode b_Model_lay 108 = .ok (.iload 4, 2) := by decide +kernel
theorem d_Model_lay_110 : decode b_Model_lay 110 = .ok (.isub, 1) := by decide +kernel
theorem d_Model_lay_111 : decode b_Model_lay 111 = .ok (.istore 8, 2) := by decide +kernel
theorem d_Model_lay_113 : decode b_Model_lay 113 = .ok (.aload_n 0, 1) := by decide +kernel
theorem d_Model_lay_114 : decode b_Model_lay 114 = .ok (.getfield 173, 3) := by decide +kernel
theorem d_Model_lay_117 : decode b_Model_lay 117 = .ok (.ifCond .le 23, 3) := by decide +kernel
theorem d_Model_lay_120 : decode b_Model_lay 120 = .ok (.iload 8, 2) := by decide +kernel
theorem d_Model_lay_122 : decode b_Model_lay 122 = .ok (.iload 7, 2) := by decide +kernel
theorem d_Model_lay_124 : decode b_Model_lay 124 = .ok (.if_icmp .le 16, 3) := by decide +kernel
theorem d_Model_lay_127 : decode b_Model_lay 127 = .ok (.aload_n 0, 1) := by decide +kernel
theorem d_Model_lay_128 : decode b_Model_lay 128 = .ok (.iload_n 1, 1) := by decide +kernel
theorem d_Model_lay_129 : decode b_Model_lay 129 = .ok (.iload_n 3, 1) := by decide +kernel
theorem d_Model_lay_130 : decode b_Model_lay 130 = .ok (.iload_n 2, 1) := by decide +kernel
theorem d_Model_lay_131 : decode b_Model_lay 131 = .ok (.invokevirtual 189, 3) := by decide +kernel
theorem d_Model_lay_134 : decode b_Model_lay 134 = .ok (.iinc 3 1, 3) := by decide +kernel
theorem d_Model_lay_137 : decode b_Model_lay 137 = .ok (.goto 95, 3) := by decide +kernel
theorem d_Model_lay_140 : decode b_Model_lay 140 = .ok (.aload_n 0, 1) := by decide +kernel
theorem d_Model_lay_141 : decode b_Model_lay 141 = .ok (.getfield 173, 3) := by decide +kernel
theorem d_Model_lay_144 : decode b_Model_lay 144 = .ok (.ifCond .le 23, 3) := by decide +kernel
theorem d_Model_lay_147 : decode b_Model_lay 147 = .ok (.aload_n 0, 1) := by decide +kernel
theorem d_Model_lay_148 : decode b_Model_lay 148 = .ok (.getfield 48, 3) := by decide +kernel
theorem d_Model_lay_151 : decode b_Model_lay 151 = .ok (.aload_n 0, 1) := by decide +kernel
theorem d_Model_lay_152 : decode b_Model_lay 152 = .ok (.getfield 173, 3) := by decide +kernel
theorem d_Model_lay_155 : decode b_Model_lay 155 = .ok (.iconst 0, 1) := by decide +kernel
theorem d_Model_lay_156 : decode b_Model_lay 156 = .ok (.iastore, 1) := by decide +kernel
theorem d_Model_lay_157 : decode b_Model_lay 157 = .ok (.aload_n 0, 1) := by decide +kernel
theorem d_Model_lay_158 : decode b_Model_lay 158 = .ok (.dup, 1) := by decide +kernel
theorem d_Model_lay_159 : decode b_Model_lay 159 = .ok (.getfield 173, 3) := by decide +kernel
theorem d_Model_lay_162 : decode b_Model_lay 162 = .ok (.iconst 1, 1) := by decide +kernel
theorem d_Model_lay_163 : decode b_Model_lay 163 = .ok (.iadd, 1) := by decide +kernel
theorem d_Model_lay_164 : decode b_Model_lay 164 = .ok (.putfield 173, 3) := by decide +kernel
theorem d_Model_lay_167 : decode b_Model_lay 167 = .ok (.iload 4, 2) := by decide +kernel
theorem d_Model_lay_169 : decode b_Model_lay 169 = .ok (.iload 6, 2) := by decide +kernel
theorem d_Model_lay_171 : decode b_Model_lay 171 = .ok (.if_icmp .ge 44, 3) := by decide +kernel
theorem d_Model_lay_174 : decode b_Model_lay 174 = .ok (.aload_n 0, 1) := by decide +kernel
theorem d_Model_lay_175 : decode b_Model_lay 175 = .ok (.getfield 173, 3) := by decide +kernel
theorem d_Model_lay_178 : decode b_Model_lay 178 = .ok (.iload 7, 2) := by decide +kernel
theorem d_Model_lay_180 : decode b_Model_lay 180 = .ok (.if_icmp .ge 35, 3) := by decide +kernel
theorem d_Model_lay_183 : decode b_Model_lay 183 = .ok (.aload_n 0, 1) := by decide +kernel
theorem d_Model_lay_184 : decode b_Model_lay 184 = .ok (.getfield 48, 3) := by decide +kernel
theorem d_Model_lay_187 : decode b_Model_lay 187 = .ok (.aload_n 0, 1) := by decide +kernel
theorem d_Model_lay_188 : decode b_Model_lay 188 = .ok (.getfield 173, 3) := by decide +kernel
theorem d_Model_lay_191 : decode b_Model_lay 191 = .ok (.aload_n 0, 1) := by decide +kernel
theorem d_Model_lay_192 : decode b_Model_lay 192 = .ok (.getfield 39, 3) := by decide +kernel
theorem d_Model_lay_195 : decode b_Model_lay 195 = .ok (.iload 4, 2) := by decide +kernel
theorem d_Model_lay_197 : decode b_Model_lay 197 = .ok (.iaload, 1) := by decide +kernel
theorem d_Model_lay_198 : decode b_Model_lay 198 = .ok (.iastore, 1) := by decide +kernel
theorem d_Model_lay_199 : decode b_Model_lay 199 = .ok (.aload_n 0, 1) := by decide +kernel
theorem d_Model_lay_200 : decode b_Model_lay 200 = .ok (.dup, 1) := by decide +kernel
theorem d_Model_lay_201 : decode b_Model_lay 201 = .ok (.getfield 173, 3) := by decide +kernel
theorem d_Model_lay_204 : decode b_Model_lay 204 = .ok (.iconst 1, 1) := by decide +kernel
theorem d_Model_lay_205 : decode b_Model_lay 205 = .ok (.iadd, 1) := by decide +kernel
theorem d_Model_lay_206 : decode b_Model_lay 206 = .ok (.putfield 173, 3) := by decide +kernel
theorem d_Model_lay_209 : decode b_Model_lay 209 = .ok (.iinc 4 1, 3) := by decide +kernel
theorem d_Model_lay_212 : decode b_Model_lay 212 = .ok (.goto (-45), 3) := by decide +kernel
theorem d_Model_lay_215 : decode b_Model_lay 215 = .ok (.iload 4, 2) := by decide +kernel
theorem d_Model_lay_217 : decode b_Model_lay 217 = .ok (.iload 6, 2) := by decide +kernel
theorem d_Model_lay_219 : decode b_Model_lay 219 = .ok (.if_icmp .ge 13, 3) := by decide +kernel
theorem d_Model_lay_222 : decode b_Model_lay 222 = .ok (.aload_n 0, 1) := by decide +kernel
theorem d_Model_lay_223 : decode b_Model_lay 223 = .ok (.iload_n 1, 1) := by decide +kernel
theorem d_Model_lay_224 : decode b_Model_lay 224 = .ok (.iload_n 3, 1) := by decide +kernel
theorem d_Model_lay_225 : decode b_Model_lay 225 = .ok (.iload_n 2, 1) := by decide +kernel
theorem d_Model_lay_226 : decode b_Model_lay 226 = .ok (.invokevirtual 189, 3) := by decide +kernel
theorem d_Model_lay_229 : decode b_Model_lay 229 = .ok (.iinc 3 1, 3) := by decide +kernel
theorem d_Model_lay_232 : decode b_Model_lay 232 = .ok (.goto (-173), 3) := by decide +kernel
theorem d_Model_lay_235 : decode b_Model_lay 235 = .ok (.iinc 4 1, 3) := by decide +kernel
theorem d_Model_lay_238 : decode b_Model_lay 238 = .ok (.goto (-213), 3) := by decide +kernel
theorem d_Model_lay_241 : decode b_Model_lay 241 = .ok (.aload_n 0, 1) := by decide +kernel
theorem d_Model_lay_242 : decode b_Model_lay 242 = .ok (.getfield 173, 3) := by decide +kernel
theorem d_Model_lay_245 : decode b_Model_lay 245 = .ok (.ifCond .le 13, 3) := by decide +kernel
theorem d_Model_lay_248 : decode b_Model_lay 248 = .ok (.aload_n 0, 1) := by decide +kernel
theorem d_Model_lay_249 : decode b_Model_lay 249 = .ok (.iload_n 1, 1) := by decide +kernel
theorem d_Model_lay_250 : decode b_Model_lay 250 = .ok (.iload_n 3, 1) := by decide +kernel
theorem d_Model_lay_251 : decode b_Model_lay 251 = .ok (.iload_n 2, 1) := by decide +kernel
theorem d_Model_lay_252 : decode b_Model_lay 252 = .ok (.invokevirtual 189, 3) := by decide +kernel
theorem d_Model_lay_255 : decode b_Model_lay 255 = .ok (.iinc 3 1, 3) := by decide +kernel
theorem d_Model_lay_258 : decode b_Model_lay 258 = .ok (.iload_n 3, 1) := by decide +kernel
theorem d_Model_lay_259 : decode b_Model_lay 259 = .ok (.ireturn, 1) := by decide +kernel
theorem d_Model_closeLine_0 : decode b_Model_closeLine 0 = .ok (.iload_n 3, 1) := by decide +kernel
theorem d_Model_closeLine_1 : decode b_Model_closeLine 1 = .ok (.ifCond .eq 19, 3) := by decide +kernel
theorem d_Model_closeLine_4 : decode b_Model_closeLine 4 = .ok (.aload_n 0, 1) := by decide +kernel
theorem d_Model_closeLine_5 : decode b_Model_closeLine 5 = .ok (.iload_n 1, 1) := by decide +kernel
theorem d_Model_closeLine_6 : decode b_Model_closeLine 6 = .ok (.aload_n 0, 1) := by decide +kernel
theorem d_Model_closeLine_7 : decode b_Model_closeLine 7 = .ok (.aload_n 0, 1) := by decide +kernel
theorem d_Model_closeLine_8 : decode b_Model_closeLine 8 = .ok (.getfield 33, 3) := by decide +kernel
theorem d_Model_closeLine_11 : decode b_Model_closeLine 11 = .ok (.iload_n 1, 1) := by decide +kernel
theorem d_Model_closeLine_12 : decode b_Model_closeLine 12 = .ok (.iaload, 1) := by decide +kernel
theorem d_Model_closeLine_13 : decode b_Model_closeLine 13 = .ok (.iload_n 2, 1) := by decide +kernel
theorem d_Model_closeLine_14 : decode b_Model_closeLine 14 = .ok (.invokevirtual 185, 3) := by decide +kernel
theorem d_Model_closeLine_17 : decode b_Model_closeLine 17 = .ok (.invokevirtual 193, 3) := by decide +kernel
theorem d_Model_closeLine_20 : decode b_Model_closeLine 20 = .ok (.aload_n 0, 1) := by decide +kernel
theorem d_Model_closeLine_21 : decode b_Model_closeLine 21 = .ok (.iconst 0, 1) := by decide +kernel
theorem d_Model_closeLine_22 : decode b_Model_closeLine 22 = .ok (.putfield 173, 3) := by decide +kernel
theorem d_Model_closeLine_25 : decode b_Model_closeLine 25 = .ok (.return_, 1) := by decide +kernel
theorem d_Model_layOut_0 : decode b_Model_layOut 0 = .ok (.aload_n 0, 1) := by decide +kernel
theorem d_Model_layOut_1 : decode b_Model_layOut 1 = .ok (.iconst 1, 1) := by decide +kernel
theorem d_Model_layOut_2 : decode b_Model_layOut 2 = .ok (.putfield 170, 3) := by decide +kernel
theorem d_Model_layOut_5 : decode b_Model_layOut 5 = .ok (.aload_n 0, 1) := by decide +kernel
theorem d_Model_layOut_6 : decode b_Model_layOut 6 = .ok (.iconst 0, 1) := by decide +kernel
theorem d_Model_layOut_7 : decode b_Model_layOut 7 = .ok (.putfield 167, 3) := by decide +kernel
theorem d_Model_layOut_10 : decode b_Model_layOut 10 = .ok (.aload_n 0, 1) := by decide +kernel
theorem d_Model_layOut_11 : decode b_Model_layOut 11 = .ok (.iconst 1, 1) := by decide +kernel
theorem d_Model_layOut_12 : decode b_Model_layOut 12 = .ok (.putfield 182, 3) := by decide +kernel
theorem d_Model_layOut_15 : decode b_Model_layOut 15 = .ok (.aload_n 0, 1) := by decide +kernel
theorem d_Model_layOut_16 : decode b_Model_layOut 16 = .ok (.iload_n 1, 1) := by decide +kernel
theorem d_Model_layOut_17 : decode b_Model_layOut 17 = .ok (.putfield 176, 3) := by decide +kernel
theorem d_Model_layOut_20 : decode b_Model_layOut 20 = .ok (.aload_n 0, 1) := by decide +kernel
theorem d_Model_layOut_21 : decode b_Model_layOut 21 = .ok (.iload_n 2, 1) := by decide +kernel
theorem d_Model_layOut_22 : decode b_Model_layOut 22 = .ok (.putfield 179, 3) := by decide +kernel
theorem d_Model_layOut_25 : decode b_Model_layOut 25 = .ok (.iconst 0, 1) := by decide +kernel
theorem d_Model_layOut_26 : decode b_Model_layOut 26 = .ok (.istore_n 3, 1) := by decide +kernel
theorem d_Model_layOut_27 : decode b_Model_layOut 27 = .ok (.iload_n 3, 1) := by decide +kernel
theorem d_Model_layOut_28 : decode b_Model_layOut 28 = .ok (.bipush 40, 2) := by decide +kernel
theorem d_Model_layOut_30 : decode b_Model_layOut 30 = .ok (.if_icmp .ge 16, 3) := by decide +kernel
theorem d_Model_layOut_33 : decode b_Model_layOut 33 = .ok (.aload_n 0, 1) := by decide +kernel
theorem d_Model_layOut_34 : decode b_Model_layOut 34 = .ok (.getfield 51, 3) := by decide +kernel
theorem d_Model_layOut_37 : decode b_Model_layOut 37 = .ok (.iload_n 3, 1) := by decide +kernel
theorem d_Model_layOut_38 : decode b_Model_layOut 38 = .ok (.iconst 0, 1) := by decide +kernel
theorem d_Model_layOut_39 : decode b_Model_layOut 39 = .ok (.iastore, 1) := by decide +kernel
theorem d_Model_layOut_40 : decode b_Model_layOut 40 = .ok (.iinc 3 1, 3) := by decide +kernel
theorem d_Model_layOut_43 : decode b_Model_layOut 43 = .ok (.goto (-16), 3) := by decide +kernel
theorem d_Model_layOut_46 : decode b_Model_layOut 46 = .ok (.iconst 0, 1) := by decide +kernel
theorem d_Model_layOut_47 : decode b_Model_layOut 47 = .ok (.istore_n 3, 1) := by decide +kernel
theorem d_Model_layOut_48 : decode b_Model_layOut 48 = .ok (.iload_n 3, 1) := by decide +kernel
theorem d_Model_layOut_49 : decode b_Model_layOut 49 = .ok (.aload_n 0, 1) := by decide +kernel
theorem d_Model_layOut_50 : decode b_Model_layOut 50 = .ok (.getfield 100, 3) := by decide +kernel
theorem d_Model_layOut_53 : decode b_Model_layOut 53 = .ok (.if_icmp .ge 168, 3) := by decide +kernel
theorem d_Model_layOut_56 : decode b_Model_layOut 56 = .ok (.aload_n 0, 1) := by decide +kernel
theorem d_Model_layOut_57 : decode b_Model_layOut 57 = .ok (.getfield 54, 3) := by decide +kernel
theorem d_Model_layOut_60 : decode b_Model_layOut 60 = .ok (.iload_n 3, 1) := by decide +kernel
theorem d_Model_layOut_61 : decode b_Model_layOut 61 = .ok (.iconst (-1), 1) := by decide +kernel
theorem d_Model_layOut_62 : decode b_Model_layOut 62 = .ok (.iastore, 1) := by decide +kernel
theorem d_Model_layOut_63 : decode b_Model_layOut 63 = .ok (.aload_n 0, 1) := by decide +kernel
theorem d_Model_layOut_64 : decode b_Model_layOut 64 = .ok (.getfield 33, 3) := by decide +kernel
theorem d_Model_layOut_67 : decode b_Model_layOut 67 = .ok (.iload_n 3, 1) := by decide +kernel
theorem d_Model_layOut_68 : decode b_Model_layOut 68 = .ok (.iaload, 1) := by decide +kernel
theorem d_Model_layOut_69 : decode b_Model_layOut 69 = .ok (.iconst 3, 1) := by decide +kernel
theorem d_Model_layOut_70 : decode b_Model_layOut 70 = .ok (.if_icmp .ne 35, 3) := by decide +kernel
theorem d_Model_layOut_73 : decode b_Model_layOut 73 = .ok (.aload_n 0, 1) := by decide +kernel
theorem d_Model_layOut_74 : decode b_Model_layOut 74 = .ok (.aload_n 0, 1) := by decide +kernel
theorem d_Model_layOut_75 : decode b_Model_layOut 75 = .ok (.getfield 167, 3) := by decide +kernel
theorem d_Model_layOut_78 : decode b_Model_layOut 78 = .ok (.ifCond .le 12, 3) := by decide +kernel
theorem d_Model_layOut_81 : decode b_Model_layOut 81 = .ok (.aload_n 0, 1) := by decide +kernel
theorem d_Model_layOut_82 : decode b_Model_layOut 82 = .ok (.getfield 170, 3) := by decide +kernel
theorem d_Model_layOut_85 : decode b_Model_layOut 85 = .ok (.iconst 1, 1) := by decide +kernel
theorem d_Model_layOut_86 : decode b_Model_layOut 86 = .ok (.iadd, 1) := by decide +kernel
theorem d_Model_layOut_87 : decode b_Model_layOut 87 = .ok (.goto 7, 3) := by decide +kernel
theorem d_Model_layOut_90 : decode b_Model_layOut 90 = .ok (.aload_n 0, 1) := by decide +kernel
theorem d_Model_layOut_91 : decode b_Model_layOut 91 = .ok (.getfield 170, 3) := by decide +kernel
theorem d_Model_layOut_94 : decode b_Model_layOut 94 = .ok (.putfield 170, 3) := by decide +kernel
theorem d_Model_layOut_97 : decode b_Model_layOut 97 = .ok (.aload_n 0, 1) := by decide +kernel
theorem d_Model_layOut_98 : decode b_Model_layOut 98 = .ok (.iconst 0, 1) := by decide +kernel
theorem d_Model_layOut_99 : decode b_Model_layOut 99 = .ok (.putfield 167, 3) := by decide +kernel
theorem d_Model_layOut_102 : decode b_Model_layOut 102 = .ok (.goto 113, 3) := by decide +kernel
theorem d_Model_layOut_105 : decode b_Model_layOut 105 = .ok (.aload_n 0, 1) := by decide +kernel
theorem d_Model_layOut_106 : decode b_Model_layOut 106 = .ok (.getfield 33, 3) := by decide +kernel
theorem d_Model_layOut_109 : decode b_Model_layOut 109 = .ok (.iload_n 3, 1) := by decide +kernel
theorem d_Model_layOut_110 : decode b_Model_layOut 110 = .ok (.iaload, 1) := by decide +kernel
theorem d_Model_layOut_111 : decode b_Model_layOut 111 = .ok (.iconst 1, 1) := by decide +kernel
theorem d_Model_layOut_112 : decode b_Model_layOut 112 = .ok (.if_icmp .ne 12, 3) := by decide +kernel
theorem d_Model_layOut_115 : decode b_Model_layOut 115 = .ok (.aload_n 0, 1) := by decide +kernel
theorem d_Model_layOut_116 : decode b_Model_layOut 116 = .ok (.iload_n 3, 1) := by decide +kernel
theorem d_Model_layOut_117 : decode b_Model_layOut 117 = .ok (.iconst 0, 1) := by decide +kernel
theorem d_Model_layOut_118 : decode b_Model_layOut 118 = .ok (.invokevirtual 196, 3) := by decide +kernel
theorem d_Model_layOut_121 : decode b_Model_layOut 121 = .ok (.goto 4, 3) := by decide +kernel
theorem d_Model_layOut_124 : decode b_Model_layOut 124 = .ok (.iconst 0, 1) := by decide +kernel
theorem d_Model_layOut_125 : decode b_Model_layOut 125 = .ok (.istore 4, 2) := by decide +kernel
theorem d_Model_layOut_127 : decode b_Model_layOut 127 = .ok (.iload 4, 2) := by decide +kernel
theorem d_Model_layOut_129 : decode b_Model_layOut 129 = .ok (.ifCond .le 78, 3) := by decide +kernel
theorem d_Model_layOut_132 : decode b_Model_layOut 132 = .ok (.aload_n 0, 1) := by decide +kernel
theorem d_Model_layOut_133 : decode b_Model_layOut 133 = .ok (.getfield 167, 3) := by decide +kernel
theorem d_Model_layOut_136 : decode b_Model_layOut 136 = .ok (.ifCond .le 71, 3) := by decide +kernel
theorem d_Model_layOut_139 : decode b_Model_layOut 139 = .ok (.aload_n 0, 1) := by decide +kernel
theorem d_Model_layOut_140 : decode b_Model_layOut 140 = .ok (.getfield 60, 3) := by decide +kernel
theorem d_Model_layOut_143 : decode b_Model_layOut 143 = .ok (.iconst 1, 1) := by decide +kernel
theorem d_Model_layOut_144 : decode b_Model_layOut 144 = .ok (.isub, 1) := by decide +kernel
theorem d_Model_layOut_145 : decode b_Model_layOut 145 = .ok (.aload_n 0, 1) := by decide +kernel
theorem d_Model_layOut_146 : decode b_Model_layOut 146 = .ok (.getfield 167, 3) := by decide +kernel
theorem d_Model_layOut_149 : decode b_Model_layOut 149 = .ok (.isub, 1) := by decide +kernel
theorem d_Model_layOut_150 : decode b_Model_layOut 150 = .ok (.iconst 1, 1) := by decide +kernel
theorem d_Model_layOut_151 : decode b_Model_layOut 151 = .ok (.isub, 1) := by decide +kernel
theorem d_Model_layOut_152 : decode b_Model_layOut 152 = .ok (.iload 4, 2) := by decide +kernel
theorem d_Model_layOut_154 : decode b_Model_layOut 154 = .ok (.iconst 1, 1) := by decide +kernel
theorem d_Model_layOut_155 : decode b_Model_layOut 155 = .ok (.iadd, 1) := by decide +kernel
theorem d_Model_layOut_156 : decode b_Model_layOut 156 = .ok (.if_icmp .lt 7, 3) := by decide +kernel
theorem d_Model_layOut_159 : decode b_Model_layOut 159 = .ok (.iconst 1, 1) := by decide +kernel
theorem d_Model_layOut_160 : decode b_Model_layOut 160 = .ok (.goto 4, 3) := by decide +kernel
theorem d_Model_layOut_163 : decode b_Model_layOut 163 = .ok (.iconst 0, 1) := by decide +kernel
theorem d_Model_layOut_164 : decode b_Model_layOut 164 = .ok (.istore 5, 2) := by decide +kernel
theorem d_Model_layOut_166 : decode b_Model_layOut 166 = .ok (.aload_n 0, 1) := by decide +kernel
theorem d_Model_layOut_167 : decode b_Model_layOut 167 = .ok (.iload 5, 2) := by decide +kernel
theorem d_Model_layOut_169 : decode b_Model_layOut 169 = .ok (.ifCond .eq 10, 3) := by decide +kernel
theorem d_Model_layOut_172 : decode b_Model_layOut 172 = .ok (.aload_n 0, 1) := by decide +kernel
theorem d_Model_layOut_173 : decode b_Model_layOut 173 = .ok (.getfield 170, 3) := by decide +kernel
theorem d_Model_layOut_176 : decode b_Model_layOut 176 = .ok (.goto 9, 3) := by decide +kernel
theorem d_Model_layOut_179 : decode b_Model_layOut 179 = .ok (.aload_n 0, 1) := by decide +kernel
theorem d_Model_layOut_180 : decode b_Model_layOut 180 = .ok (.getfield 170, 3) := by decide +kernel
theorem d_Model_layOut_183 : decode b_Model_layOut 183 = .ok (.iconst 1, 1) := by decide +kernel
theorem d_Model_layOut_184 : decode b_Model_layOut 184 = .ok (.iadd, 1) := by decide +kernel
theorem d_Model_layOut_185 : decode b_Model_layOut 185 = .ok (.putfield 170, 3) := by decide +kernel
theorem d_Model_layOut_188 : decode b_Model_layOut 188 = .ok (.aload_n 0, 1) := by decide +kernel
theorem d_Model_layOut_189 : decode b_Model_layOut 189 = .ok (.iload 5, 2) := by decide +kernel
theorem d_Model_layOut_191 : decode b_Model_layOut 191 = .ok (.ifCond .eq 12, 3) := by decide +kernel
theorem d_Model_layOut_194 : decode b_Model_layOut 194 = .ok (.aload_n 0, 1) := by decide +kernel
theorem d_Model_layOut_195 : decode b_Model_layOut 195 = .ok (.getfield 167, 3) := by decide +kernel
theorem d_Model_layOut_198 : decode b_Model_layOut 198 = .ok (.iconst 1, 1) := by decide +kernel
theorem d_Model_layOut_199 : decode b_Model_layOut 199 = .ok (.iadd, 1) := by decide +kernel
theorem d_Model_layOut_200 : decode b_Model_layOut 200 = .ok (.goto 4, 3) := by decide +kernel
theorem d_Model_layOut_203 : decode b_Model_layOut 203 = .ok (.iconst 0, 1) := by decide +kernel
theorem d_Model_layOut_204 : decode b_Model_layOut 204 = .ok (.putfield 167, 3) := by decide +kernel
theorem d_Model_layOut_207 : decode b_Model_layOut 207 = .ok (.aload_n 0, 1) := by decide +kernel
theorem d_Model_layOut_208 : decode b_Model_layOut 208 = .ok (.iload_n 3, 1) := by decide +kernel
theorem d_Model_layOut_209 : decode b_Model_layOut 209 = .ok (.iconst 1, 1) := by decide +kernel
theorem d_Model_layOut_210 : decode b_Model_layOut 210 = .ok (.invokevirtual 196, 3) := by decide +kernel
theorem d_Model_layOut_213 : decode b_Model_layOut 213 = .ok (.istore 4, 2) := by decide +kernel
theorem d_Model_layOut_215 : decode b_Model_layOut 215 = .ok (.iinc 3 1, 3) := by decide +kernel
theorem d_Model_layOut_218 : decode b_Model_layOut 218 = .ok (.goto (-170), 3) := by decide +kernel
theorem d_Model_layOut_221 : decode b_Model_layOut 221 = .ok (.return_, 1) := by decide +kernel
theorem d_Model_pages_0 : decode b_Model_pages 0 = .ok (.aload_n 0, 1) := by decide +kernel
theorem d_Model_pages_1 : decode b_Model_pages 1 = .ok (.iconst 0, 1) := by decide +kernel
theorem d_Model_pages_2 : decode b_Model_pages 2 = .ok (.putfield 63, 3) := by decide +kernel
theorem d_Model_pages_5 : decode b_Model_pages 5 = .ok (.aload_n 0, 1) := by decide +kernel
theorem d_Model_pages_6 : decode b_Model_pages 6 = .ok (.iconst 0, 1) := by decide +kernel
theorem d_Model_pages_7 : decode b_Model_pages 7 = .ok (.iconst 0, 1) := by decide +kernel
theorem d_Model_pages_8 : decode b_Model_pages 8 = .ok (.invokevirtual 200, 3) := by decide +kernel
theorem d_Model_pages_11 : decode b_Model_pages 11 = .ok (.aload_n 0, 1) := by decide +kernel
theorem d_Model_pages_12 : decode b_Model_pages 12 = .ok (.getfield 182, 3) := by decide +kernel
theorem d_Model_pages_15 : decode b_Model_pages 15 = .ok (.ireturn, 1) := by decide +kernel
theorem d_Model_number_0 : decode b_Model_number 0 = .ok (.aload_n 0, 1) := by decide +kernel
theorem d_Model_number_1 : decode b_Model_number 1 = .ok (.getfield 57, 3) := by decide +kernel
theorem d_Model_number_4 : decode b_Model_number 4 = .ok (.iconst 1, 1) := by decide +kernel
theorem d_Model_number_5 : decode b_Model_number 5 = .ok (.isub, 1) := by decide +kernel
theorem d_Model_number_6 : decode b_Model_number 6 = .ok (.istore_n 2, 1) := by decide +kernel
theorem d_Model_number_7 : decode b_Model_number 7 = .ok (.iload_n 1, 1) := by decide +kernel
theorem d_Model_number_8 : decode b_Model_number 8 = .ok (.istore_n 3, 1) := by decide +kernel
theorem d_Model_number_9 : decode b_Model_number 9 = .ok (.iload_n 3, 1) := by decide +kernel
theorem d_Model_number_10 : decode b_Model_number 10 = .ok (.ifCond .le 28, 3) := by decide +kernel
theorem d_Model_number_13 : decode b_Model_number 13 = .ok (.aload_n 0, 1) := by decide +kernel
theorem d_Model_number_14 : decode b_Model_number 14 = .ok (.getfield 51, 3) := by decide +kernel
theorem d_Model_number_17 : decode b_Model_number 17 = .ok (.iload_n 2, 1) := by decide +kernel
theorem d_Model_number_18 : decode b_Model_number 18 = .ok (.aload_n 0, 1) := by decide +kernel
theorem d_Model_number_19 : decode b_Model_number 19 = .ok (.iload_n 3, 1) := by decide +kernel
theorem d_Model_number_20 : decode b_Model_number 20 = .ok (.bipush 10, 2) := by decide +kernel
theorem d_Model_number_22 : decode b_Model_number 22 = .ok (.irem, 1) := by decide +kernel
theorem d_Model_number_23 : decode b_Model_number 23 = .ok (.invokevirtual 128, 3) := by decide +kernel
theorem d_Model_number_26 : decode b_Model_number 26 = .ok (.iastore, 1) := by decide +kernel
theorem d_Model_number_27 : decode b_Model_number 27 = .ok (.iload_n 3, 1) := by decide +kernel
theorem d_Model_number_28 : decode b_Model_number 28 = .ok (.bipush 10, 2) := by decide +kernel
theorem d_Model_number_30 : decode b_Model_number 30 = .ok (.idiv, 1) := by decide +kernel
theorem d_Model_number_31 : decode b_Model_number 31 = .ok (.istore_n 3, 1) := by decide +kernel
theorem d_Model_number_32 : decode b_Model_number 32 = .ok (.iinc 2 (-1), 3) := by decide +kernel
theorem d_Model_number_35 : decode b_Model_number 35 = .ok (.goto (-26), 3) := by decide +kernel
theorem d_Model_number_38 : decode b_Model_number 38 = .ok (.aload_n 0, 1) := by decide +kernel
theorem d_Model_number_39 : decode b_Model_number 39 = .ok (.getfield 51, 3) := by decide +kernel
theorem d_Model_number_42 : decode b_Model_number 42 = .ok (.iload_n 2, 1) := by decide +kernel
theorem d_Model_number_43 : decode b_Model_number 43 = .ok (.bipush 60, 2) := by decide +kernel
theorem d_Model_number_45 : decode b_Model_number 45 = .ok (.iastore, 1) := by decide +kernel
theorem d_Model_number_46 : decode b_Model_number 46 = .ok (.return_, 1) := by decide +kernel
theorem d_Model_at_0 : decode b_Model_at 0 = .ok (.aload_n 0, 1) := by decide +kernel
theorem d_Model_at_1 : decode b_Model_at 1 = .ok (.iload_n 1, 1) := by decide +kernel
theorem d_Model_at_2 : decode b_Model_at 2 = .ok (.iload_n 2, 1) := by decide +kernel
theorem d_Model_at_3 : decode b_Model_at 3 = .ok (.invokevirtual 200, 3) := by decide +kernel
theorem d_Model_at_6 : decode b_Model_at 6 = .ok (.aload_n 0, 1) := by decide +kernel
theorem d_Model_at_7 : decode b_Model_at 7 = .ok (.iload_n 1, 1) := by decide +kernel
theorem d_Model_at_8 : decode b_Model_at 8 = .ok (.iconst 1, 1) := by decide +kernel
theorem d_Model_at_9 : decode b_Model_at 9 = .ok (.if_icmp .lt 35, 3) := by decide +kernel
theorem d_Model_at_12 : decode b_Model_at 12 = .ok (.iload_n 1, 1) := by decide +kernel
theorem d_Model_at_13 : decode b_Model_at 13 = .ok (.aload_n 0, 1) := by decide +kernel
theorem d_Model_at_14 : decode b_Model_at 14 = .ok (.getfield 182, 3) := by decide +kernel
theorem d_Model_at_17 : decode b_Model_at 17 = .ok (.if_icmp .gt 27, 3) := by decide +kernel
theorem d_Model_at_20 : decode b_Model_at 20 = .ok (.iload_n 2, 1) := by decide +kernel
theorem d_Model_at_21 : decode b_Model_at 21 = .ok (.ifCond .lt 23, 3) := by decide +kernel
theorem d_Model_at_24 : decode b_Model_at 24 = .ok (.iload_n 2, 1) := by decide +kernel
theorem d_Model_at_25 : decode b_Model_at 25 = .ok (.aload_n 0, 1) := by decide +kernel
theorem d_Model_at_26 : decode b_Model_at 26 = .ok (.getfield 60, 3) := by decide +kernel
theorem d_Model_at_29 : decode b_Model_at 29 = .ok (.if_icmp .ge 15, 3) := by decide +kernel
theorem d_Model_at_32 : decode b_Model_at 32 = .ok (.iload_n 3, 1) := by decide +kernel
theorem d_Model_at_33 : decode b_Model_at 33 = .ok (.ifCond .lt 11, 3) := by decide +kernel
theorem d_Model_at_36 : decode b_Model_at 36 = .ok (.iload_n 3, 1) := by decide +kernel
theorem d_Model_at_37 : decode b_Model_at 37 = .ok (.aload_n 0, 1) := by decide +kernel
theorem d_Model_at_38 : decode b_Model_at 38 = .ok (.getfield 57, 3) := by decide +kernel
theorem d_Model_at_41 : decode b_Model_at 41 = .ok (.if_icmp .lt 7, 3) := by decide +kernel
theorem d_Model_at_44 : decode b_Model_at 44 = .ok (.iconst 1, 1) := by decide +kernel
theorem d_Model_at_45 : decode b_Model_at 45 = .ok (.goto 4, 3) := by decide +kernel
theorem d_Model_at_48 : decode b_Model_at 48 = .ok (.iconst 0, 1) := by decide +kernel
theorem d_Model_at_49 : decode b_Model_at 49 = .ok (.putfield 63, 3) := by decide +kernel
theorem d_Model_at_52 : decode b_Model_at 52 = .ok (.aload_n 0, 1) := by decide +kernel
theorem d_Model_at_53 : decode b_Model_at 53 = .ok (.getfield 63, 3) := by decide +kernel
theorem d_Model_at_56 : decode b_Model_at 56 = .ok (.ifCond .eq 5, 3) := by decide +kernel
theorem d_Model_at_59 : decode b_Model_at 59 = .ok (.iconst 0, 1) := by decide +kernel
theorem d_Model_at_60 : decode b_Model_at 60 = .ok (.ireturn, 1) := by decide +kernel
theorem d_Model_at_61 : decode b_Model_at 61 = .ok (.iload_n 2, 1) := by decide +kernel
theorem d_Model_at_62 : decode b_Model_at 62 = .ok (.aload_n 0, 1) := by decide +kernel
theorem d_Model_at_63 : decode b_Model_at 63 = .ok (.getfield 60, 3) := by decide +kernel
theorem d_Model_at_66 : decode b_Model_at 66 = .ok (.iconst 1, 1) := by decide +kernel
theorem d_Model_at_67 : decode b_Model_at 67 = .ok (.isub, 1) := by decide +kernel
theorem d_Model_at_68 : decode b_Model_at 68 = .ok (.if_icmp .ne 8, 3) := by decide +kernel
theorem d_Model_at_71 : decode b_Model_at 71 = .ok (.aload_n 0, 1) := by decide +kernel
theorem d_Model_at_72 : decode b_Model_at 72 = .ok (.iload_n 1, 1) := by decide +kernel
theorem d_Model_at_73 : decode b_Model_at 73 = .ok (.invokevirtual 203, 3) := by decide +kernel
theorem d_Model_at_76 : decode b_Model_at 76 = .ok (.aload_n 0, 1) := by decide +kernel
theorem d_Model_at_77 : decode b_Model_at 77 = .ok (.getfield 51, 3) := by decide +kernel
theorem d_Model_at_80 : decode b_Model_at 80 = .ok (.iload_n 3, 1) := by decide +kernel
theorem d_Model_at_81 : decode b_Model_at 81 = .ok (.iaload, 1) := by decide +kernel
theorem d_Model_at_82 : decode b_Model_at 82 = .ok (.ireturn, 1) := by decide +kernel
theorem d_Model_where_0 : decode b_Model_where 0 = .ok (.aload_n 0, 1) := by decide +kernel
theorem d_Model_where_1 : decode b_Model_where 1 = .ok (.aload_n 0, 1) := by decide +kernel
theorem d_Model_where_2 : decode b_Model_where 2 = .ok (.iload_n 1, 1) := by decide +kernel
theorem d_Model_where_3 : decode b_Model_where 3 = .ok (.invokevirtual 135, 3) := by decide +kernel
theorem d_Model_where_6 : decode b_Model_where 6 = .ok (.ifCond .eq 7, 3) := by decide +kernel
theorem d_Model_where_9 : decode b_Model_where 9 = .ok (.iconst 1, 1) := by decide +kernel
theorem d_Model_where_10 : decode b_Model_where 10 = .ok (.goto 4, 3) := by decide +kernel
theorem d_Model_where_13 : decode b_Model_where 13 = .ok (.iconst 0, 1) := by decide +kernel
theorem d_Model_where_14 : decode b_Model_where 14 = .ok (.putfield 63, 3) := by decide +kernel
theorem d_Model_where_17 : decode b_Model_where 17 = .ok (.aload_n 0, 1) := by decide +kernel
theorem d_Model_where_18 : decode b_Model_where 18 = .ok (.getfield 63, 3) := by decide +kernel
theorem d_Model_where_21 : decode b_Model_where 21 = .ok (.ifCond .eq 5, 3) := by decide +kernel
theorem d_Model_where_24 : decode b_Model_where 24 = .ok (.iconst 0, 1) := by decide +kernel
theorem d_Model_where_25 : decode b_Model_where 25 = .ok (.ireturn, 1) := by decide +kernel
theorem d_Model_where_26 : decode b_Model_where 26 = .ok (.aload_n 0, 1) := by decide +kernel
theorem d_Model_where_27 : decode b_Model_where 27 = .ok (.iconst 0, 1) := by decide +kernel
theorem d_Model_where_28 : decode b_Model_where 28 = .ok (.iconst 0, 1) := by decide +kernel
theorem d_Model_where_29 : decode b_Model_where 29 = .ok (.invokevirtual 200, 3) := by decide +kernel
theorem d_Model_where_32 : decode b_Model_where 32 = .ok (.aload_n 0, 1) := by decide +kernel
theorem d_Model_where_33 : decode b_Model_where 33 = .ok (.getfield 54, 3) := by decide +kernel
theorem d_Model_where_36 : decode b_Model_where 36 = .ok (.iload_n 1, 1) := by decide +kernel
theorem d_Model_where_37 : decode b_Model_where 37 = .ok (.iaload, 1) := by decide +kernel
theorem d_Model_where_38 : decode b_Model_where 38 = .ok (.ireturn, 1) := by decide +kernel
theorem d_Model_heading_0 : decode b_Model_heading 0 = .ok (.aload_n 0, 1) := by decide +kernel
theorem d_Model_heading_1 : decode b_Model_heading 1 = .ok (.iconst 0, 1) := by decide +kernel
theorem d_Model_heading_2 : decode b_Model_heading 2 = .ok (.putfield 63, 3) := by decide +kernel
theorem d_Model_heading_5 : decode b_Model_heading 5 = .ok (.aload_n 0, 1) := by decide +kernel
theorem d_Model_heading_6 : decode b_Model_heading 6 = .ok (.iconst 0, 1) := by decide +kernel
theorem d_Model_heading_7 : decode b_Model_heading 7 = .ok (.iconst 0, 1) := by decide +kernel
theorem d_Model_heading_8 : decode b_Model_heading 8 = .ok (.invokevirtual 200, 3) := by decide +kernel
theorem d_Model_heading_11 : decode b_Model_heading 11 = .ok (.iload_n 1, 1) := by decide +kernel
theorem d_Model_heading_12 : decode b_Model_heading 12 = .ok (.istore_n 2, 1) := by decide +kernel
theorem d_Model_heading_13 : decode b_Model_heading 13 = .ok (.iconst 0, 1) := by decide +kernel
theorem d_Model_heading_14 : decode b_Model_heading 14 = .ok (.istore_n 3, 1) := by decide +kernel
theorem d_Model_heading_15 : decode b_Model_heading 15 = .ok (.iload_n 3, 1) := by decide +kernel
theorem d_Model_heading_16 : decode b_Model_heading 16 = .ok (.aload_n 0, 1) := by decide +kernel
theorem d_Model_heading_17 : decode b_Model_heading 17 = .ok (.getfield 100, 3) := by decide +kernel
theorem d_Model_heading_20 : decode b_Model_heading 20 = .ok (.if_icmp .ge 41, 3) := by decide +kernel
theorem d_Model_heading_23 : decode b_Model_heading 23 = .ok (.iload_n 1, 1) := by decide +kernel
theorem d_Model_heading_24 : decode b_Model_heading 24 = .ok (.ifCond .lt 37, 3) := by decide +kernel
theorem d_Model_heading_27 : decode b_Model_heading 27 = .ok (.aload_n 0, 1) := by decide +kernel
theorem d_Model_heading_28 : decode b_Model_heading 28 = .ok (.getfield 33, 3) := by decide +kernel
theorem d_Model_heading_31 : decode b_Model_heading 31 = .ok (.iload_n 3, 1) := by decide +kernel
theorem d_Model_heading_32 : decode b_Model_heading 32 = .ok (.iaload, 1) := by decide +kernel
theorem d_Model_heading_33 : decode b_Model_heading 33 = .ok (.iconst 1, 1) := by decide +kernel
theorem d_Model_heading_34 : decode b_Model_heading 34 = .ok (.if_icmp .ne 21, 3) := by decide +kernel
theorem d_Model_heading_37 : decode b_Model_heading 37 = .ok (.aload_n 0, 1) := by decide +kernel
theorem d_Model_heading_38 : decode b_Model_heading 38 = .ok (.getfield 54, 3) := by decide +kernel
theorem d_Model_heading_41 : decode b_Model_heading 41 = .ok (.iload_n 3, 1) := by decide +kernel
theorem d_Model_heading_42 : decode b_Model_heading 42 = .ok (.iaload, 1) := by decide +kernel
theorem d_Model_heading_43 : decode b_Model_heading 43 = .ok (.ifCond .lt 12, 3) := by decide +kernel
theorem d_Model_heading_46 : decode b_Model_heading 46 = .ok (.iload_n 2, 1) := by decide +kernel
theorem d_Model_heading_47 : decode b_Model_heading 47 = .ok (.ifCond .ne 5, 3) := by decide +kernel
theorem d_Model_heading_50 : decode b_Model_heading 50 = .ok (.iload_n 3, 1) := by decide +kernel
theorem d_Model_heading_51 : decode b_Model_heading 51 = .ok (.ireturn, 1) := by decide +kernel
theorem d_Model_heading_52 : decode b_Model_heading 52 = .ok (.iinc 2 (-1), 3) := by decide +kernel
theorem d_Model_heading_55 : decode b_Model_heading 55 = .ok (.iinc 3 1, 3) := by decide +kernel
theorem d_Model_heading_58 : decode b_Model_heading 58 = .ok (.goto (-43), 3) := by decide +kernel
theorem d_Model_heading_61 : decode b_Model_heading 61 = .ok (.iconst (-1), 1) := by decide +kernel
theorem d_Model_heading_62 : decode b_Model_heading 62 = .ok (.ireturn, 1) := by decide +kernel
theorem d_Model_clear_0 : decode b_Model_clear 0 = .ok (.aload_n 0, 1) := by decide +kernel
theorem d_Model_clear_1 : decode b_Model_clear 1 = .ok (.iconst 0, 1) := by decide +kernel
theorem d_Model_clear_2 : decode b_Model_clear 2 = .ok (.putfield 63, 3) := by decide +kernel
theorem d_Model_clear_5 : decode b_Model_clear 5 = .ok (.aload_n 0, 1) := by decide +kernel
theorem d_Model_clear_6 : decode b_Model_clear 6 = .ok (.iconst 0, 1) := by decide +kernel
theorem d_Model_clear_7 : decode b_Model_clear 7 = .ok (.putfield 100, 3) := by decide +kernel
theorem d_Model_clear_10 : decode b_Model_clear 10 = .ok (.return_, 1) := by decide +kernel
end
section
/-! What the walks know of the tables and of the statics: carried along by every contract. -/
def dz_lc (j : Nat) : Int32 := ([1, 3, 9, 25, 17, 11, 27, 19, 10, 26, 5, 7, 13, 29, 21, 15, 31, 23, 14, 30, 37, 39, 58, 45, 61, 53] : List Int32).getD j 0
def dz_mc (j : Nat) : Int32 := ([50, 2, 6, 18, 38, 22, 36, 4] : List Int32).getD j 0
/-- the two texts: 0 "wbmea", 1 ".,;:?!-'" -/
def dz_sl : List Nat := [5, 8]
def dz_sb : List (List Int32) := [[119, 98, 109, 101, 97], [46, 44, 59, 58, 63, 33, 45, 39]]
/-- a static that holds some reference or null, and where it lies -/
def dz_SL (C n d : String) (A : Nat → Prop) (U : State) (H : Heap) : Prop := ∃ (c : ClassId) (k : Class) (i : Nat) (f : Field) (a : Nat) (cell : Cell) (v : Value), U.vm.findClass C = some c ∧ U.fieldFound? C n d = some (c, k, i, f) ∧ f.isStatic = true ∧ k.statics = some a ∧ H[a]? = some cell ∧ cell.vm.isStatics = true ∧ cell.cls = c ∧ k.staticTypes[f.slot]? = some f.type ∧ cell.slots[f.slot]? = some v ∧ v.isRef = true ∧ ¬ A a
theorem dz_SL.moved {C n d : String} {A : Nat → Prop} {u U : State} {H : Heap} (hvm : u.vm.Alike U.vm) (h : dz_SL C n d A u H) : dz_SL C n d A U H := by
  obtain ⟨c, k, i, f, a, cell, v, h1, h2, h3, h4, h5, h6, h7, h8, h9⟩ := h
  obtain ⟨k', hi', he⟩ := State.fieldFound?_setVm hvm h2
  exact ⟨c, k', i, f, a, cell, v, by rw [hvm.findClass]; exact h1, hi', h3, by rw [he]; exact h4, h5, h6, h7, by rw [he]; exact h8, h9⟩
theorem dz_SL.kept {C n d : String} {A : Nat → Prop} {U : State} {H H1 : Heap} (h : dz_SL C n d A U H) (hq : ∀ a : Nat, a < H.size → ¬ A a → H1[a]? = H[a]?) : dz_SL C n d A U H1 := by
  obtain ⟨c, k, i, f, a, cell, v, h1, h2, h3, h4, h5, h6, h7, h8, h9, h10, h11⟩ := h
  exact ⟨c, k, i, f, a, cell, v, h1, h2, h3, h4, by rw [hq a (Array.getElem?_eq_some_iff.mp h5).1 h11]; exact h5, h6, h7, h8, h9, h10, h11⟩
theorem dz_SL.narrow {C n d : String} {A B : Nat → Prop} {U : State} {H : Heap} (h : dz_SL C n d A U H) (hAB : ∀ q, B q → A q) : dz_SL C n d B U H := by
  obtain ⟨c, k, i, f, a, cell, v, h1, h2, h3, h4, h5, h6, h7, h8, h9, h10, h11⟩ := h
  exact ⟨c, k, i, f, a, cell, v, h1, h2, h3, h4, h5, h6, h7, h8, h9, h10, fun z => h11 (hAB a z)⟩
theorem dz_SL.words {C n d : String} {A : Nat → Prop} {s : State} (args : Array Value) (h : dz_SL C n d A s s.heap) : (Cond.laysStatic C n d).before args s = true ∧ (Cond.isRef (.static C n d)).before args s = true := by
  obtain ⟨c, k, i, f, a, cell, v, h1, h2, h3, h4, h5, h6, h7, h8, h9, h10, -⟩ := h
  refine ⟨Cond.laysStatic_of h1 h2 h3 h4 h5 h6 h7 (Array.getElem?_eq_some_iff.mp h9).1 h8, ?_⟩
  have he : (Term.static C n d).eval args s none [] s = some v := by
    simp [Term.eval, State.fieldNamed?, h2, h3, h4, h5, h6, h9]
  simp only [Cond.before, Cond.holds, Cond.value, he]
  cases v <;> simp_all [Value.isRef]
theorem dz_SL.of {C n d : String} {A : Nat → Prop} {s : State} {args : Array Value} (hl : (Cond.laysStatic C n d).before args s = true) (hr : (Cond.isRef (.static C n d)).before args s = true) (hA : ∀ a : Nat, a < s.heap.size → ¬ A a) : dz_SL C n d A s s.heap := by
  obtain ⟨c, k, i, f, a, cell, h1, h2, h3, h4, h5, h6, h7, h8, h9⟩ := Cond.laysStatic_spec hl
  have hs : cell.slots[f.slot]? = some cell.slots[f.slot] := Array.getElem?_eq_getElem h8
  have he : (Term.static C n d).eval args s none [] s = some cell.slots[f.slot] := by
    simp [Term.eval, State.fieldNamed?, h2, h3, h4, h5, h6, hs]
  refine ⟨c, k, i, f, a, cell, _, h1, h2, h3, h4, h5, h6, h7, h9, hs, ?_, hA a (Array.getElem?_eq_some_iff.mp h5).1⟩
  simp only [Cond.before, Cond.holds, Cond.value, he] at hr
  revert hr
  cases cell.slots[f.slot] <;> simp [Value.isRef]
def dz_ST (Dt : Nat → ClassId) (A : Nat → Prop) (U : State) (H : Heap) : Prop :=
  va_Z "DotBook$Code" "LETTER_CELLS" "[I" (.ref (Dt 300)) A U H ∧ va_T .int (Dt 300) 26 (fun j => .int (dz_lc j)) A U H ∧
  va_Z "DotBook$Code" "MARK_CELLS" "[I" (.ref (Dt 301)) A U H ∧ va_T .int (Dt 301) 8 (fun j => .int (dz_mc j)) A U H ∧
  vk_S 2 dz_sl dz_sb (fun i => Dt (100 + i)) (fun i => Dt (200 + i)) A U H ∧ vk_R "DotBook$Rule" 19 "wbmea" (Dt 100) U ∧ vk_R "DotBook$Code" 24 ".,;:?!-'" (Dt 101) U ∧
  va_Z "java/lang/String" "COMPACT_STRINGS" "Z" (.int 1) A U H ∧
  va_Zq "jdk/internal/util/Preconditions" "SIOOBE_FORMATTER" "Ljava/util/function/BiFunction;" A U H ∧
  dz_SL "java/lang/Throwable" "UNASSIGNED_STACK" "[Ljava/lang/StackTraceElement;" A U H ∧
  dz_SL "java/lang/Throwable" "SUPPRESSED_SENTINEL" "Ljava/util/List;" A U H
theorem dz_ST_moved {Dt : Nat → ClassId} {A B : Nat → Prop} {s U : State} {H0 H : Heap} (hw : s.WarmedH U.vm) (hq : ∀ a : Nat, a < H0.size → ¬ A a → H[a]? = H0[a]?) (hAB : ∀ q, B q → A q) (h : dz_ST Dt A s H0) : dz_ST Dt B U H := by
  obtain ⟨a1, a2, b1, b2, c1, c2, c3, d, e, f, g⟩ := h
  have ha := hw.alike
  exact ⟨((a1.kept hq).narrow hAB).moved ha, ((a2.kept hq).narrow hAB).moved ha, ((b1.kept hq).narrow hAB).moved ha, ((b2.kept hq).narrow hAB).moved ha, ((c1.kept hq).narrow hAB).moved ha, c2.warm hw, c3.warm hw, ((d.kept hq).narrow hAB).moved ha, ((e.kept hq).narrow hAB).moved ha, ((f.kept hq).narrow hAB).moved ha, ((g.kept hq).narrow hAB).moved ha⟩
theorem dz_ST_same {Dt : Nat → ClassId} {A : Nat → Prop} {s U : State} {H : Heap} (hv : s.vm = U.vm) (h : dz_ST Dt A s H) : dz_ST Dt A U H := by
  obtain ⟨a1, a2, b1, b2, c1, c2, c3, d, e, f, g⟩ := h
  have ha : s.vm.Alike U.vm := by rw [hv]; exact Vm.Alike.refl _
  exact ⟨a1.moved ha, a2.moved ha, b1.moved ha, b2.moved ha, c1.moved ha, c2.same hv.symm, c3.same hv.symm, d.moved ha, e.moved ha, f.moved ha, g.moved ha⟩
def dz_K (D : va_G) (Dt : Nat → ClassId) (A : Nat → Prop) (U : State) : Prop := va_K D vwCl (dz_tys Dt) U ∧ (∀ w ∈ dz_NW, va_Nw w U) ∧ va_AO "DotBook$Rule" U ∧ va_AO "DotBook$Block" U ∧ va_Nc "java/lang/IllegalStateException" "java/lang/IllegalArgumentException" U ∧ dz_ST Dt A U U.heap
theorem dz_nw_warm {w : Cond} (hw : w ∈ dz_NW) {s U : State} (h : s.WarmedH U.vm) (hs : va_Nw w s) : va_Nw w U := by
  have h2 := (List.mem_filter.mp hw).2
  unfold dz_ns at h2
  split at h2
  · exact va_Nw.warmF h hs
  · exact va_Nw.warmM h hs
  · exact va_Nw.warmD h hs
  · exact va_tabs rfl (rfl : (s.setVm U.vm).vm = U.vm) (by rw [Cond.castable_setVm h.alike]; exact hs)
  · cases h2
theorem dz_nw_same {w : Cond} (hw : w ∈ dz_NW) {s U : State} (h : s.vm = U.vm) (hs : va_Nw w s) : va_Nw w U := by
  have h2 := (List.mem_filter.mp hw).2
  unfold dz_ns at h2
  split at h2
  · exact va_Nw.same rfl h hs
  · exact va_Nw.same rfl h hs
  · exact va_Nw.same rfl h hs
  · exact va_Nw.same rfl h hs
  · cases h2
theorem dz_K_moved {D : va_G} {Dt : Nat → ClassId} {A B : Nat → Prop} {s U : State} (hw : s.WarmedH U.vm) (hq : ∀ a : Nat, a < s.heap.size → ¬ A a → U.heap[a]? = s.heap[a]?) (hAB : ∀ q, B q → A q) (h : dz_K D Dt A s) : dz_K D Dt B U :=
  ⟨va_K.moved hw.alike h.1, fun w hx => dz_nw_warm hx hw (h.2.1 w hx), va_AO.moved hw.alike h.2.2.1, va_AO.moved hw.alike h.2.2.2.1, va_Nc.moved hw.alike h.2.2.2.2.1, dz_ST_moved hw hq hAB h.2.2.2.2.2⟩
theorem dz_K_same {D : va_G} {Dt : Nat → ClassId} {A : Nat → Prop} {u U : State} (hv : u.vm = U.vm) (hh : U.heap = u.heap) (h : dz_K D Dt A u) : dz_K D Dt A U := by
  have ha : u.vm.Alike U.vm := by rw [hv]; exact Vm.Alike.refl _
  exact ⟨va_K.moved ha h.1, fun w hx => dz_nw_same hx hv (h.2.1 w hx), va_AO.moved ha h.2.2.1, va_AO.moved ha h.2.2.2.1, va_Nc.moved ha h.2.2.2.2.1, by rw [hh]; exact dz_ST_same hv h.2.2.2.2.2⟩
end
section
/-! THE LAYER: an abstract heap (what kind of cell lies where, references, ints as integers), a judgement over it (dz_V), one row an instruction. -/
def dz_i (z : Int) : Int32 := Int32.ofInt z
theorem dz_toInt {z : Int} (h : -2147483648 ≤ z ∧ z < 2147483648) : (dz_i z).toInt = z := by
  unfold dz_i
  rw [Int32.toInt_ofInt]
  exact Int.bmod_eq_of_le (by have e : (Int32.size : Int) = 4294967296 := by decide
                              omega) (by have e : (Int32.size : Int) = 4294967296 := by decide
                                         omega)
theorem dz_of (x : Int32) : x = dz_i x.toInt := by
  unfold dz_i
  rw [Int32.ofInt_toInt]
theorem dz_rng (x : Int32) : -2147483648 ≤ x.toInt ∧ x.toInt < 2147483648 := ⟨by have := Int32.le_toInt x; simpa using this, by have := Int32.toInt_lt x; simpa using this⟩
theorem dz_add (a b : Int) : dz_i a + dz_i b = dz_i (a + b) := by
  unfold dz_i
  rw [Int32.ofInt_add]
theorem dz_mul (a b : Int) : dz_i a * dz_i b = dz_i (a * b) := by
  unfold dz_i
  rw [Int32.ofInt_mul]
theorem dz_sub (a b : Int) : dz_i a - dz_i b = dz_i (a - b) := by
  unfold dz_i
  rw [Int32.ofInt_sub]
theorem dz_lt {a b : Int} (ha : -2147483648 ≤ a ∧ a < 2147483648) (hb : -2147483648 ≤ b ∧ b < 2147483648) : dz_i a < dz_i b ↔ a < b := by
  rw [Int32.lt_iff_toInt_lt, dz_toInt ha, dz_toInt hb]
theorem dz_le {a b : Int} (ha : -2147483648 ≤ a ∧ a < 2147483648) (hb : -2147483648 ≤ b ∧ b < 2147483648) : dz_i a ≤ dz_i b ↔ a ≤ b := by
  rw [Int32.le_iff_toInt_le, dz_toInt ha, dz_toInt hb]
theorem dz_eq {a b : Int} (ha : -2147483648 ≤ a ∧ a < 2147483648) (hb : -2147483648 ≤ b ∧ b < 2147483648) : dz_i a = dz_i b ↔ a = b := by
  rw [← Int32.toInt_inj, dz_toInt ha, dz_toInt hb]
theorem dz_0 : (0 : Int32) = dz_i 0 := by decide
theorem dz_cl {z : Int} (h : 0 ≤ z ∧ z < 2147483648) : (dz_i z).toNatClampNeg = z.toNat := by
  show ((dz_i z).toInt).toNat = _
  rw [dz_toInt ⟨by omega, h.2⟩]
theorem dz_in {z : Int} {n : Nat} (h : 0 ≤ z ∧ z < n) (hn : n < 2147483648) : vp_in (dz_i z) n := by
  rw [vp_in_iff, dz_toInt ⟨by omega, by omega⟩]
  omega
theorem dz_div {a b : Int} (ha : 0 ≤ a ∧ a < 2147483648) (hb : 0 < b ∧ b < 2147483648) : dz_i a / dz_i b = dz_i (a / b) := by
  have h1 : 0 ≤ a / b := Int.ediv_nonneg ha.1 (by omega)
  have h2 : a / b ≤ a := Int.ediv_le_self b ha.1
  rw [← Int32.toInt_inj, Int32.toInt_div, dz_toInt ⟨by omega, ha.2⟩, dz_toInt ⟨by omega, hb.2⟩, dz_toInt ⟨by omega, by omega⟩, Int.tdiv_eq_ediv_of_nonneg ha.1]
  exact Int.bmod_eq_of_le (by omega) (by omega)
theorem dz_rem {a b : Int} (ha : 0 ≤ a ∧ a < 2147483648) (hb : 0 < b ∧ b < 2147483648) : dz_i a - dz_i a / dz_i b * dz_i b = dz_i (a % b) := by
  rw [dz_div ha hb, dz_mul, dz_sub, Int.emod_def, Int.mul_comm]
theorem dz_chr {z : Int} (h : 0 ≤ z ∧ z < 65536) : ((dz_i z).toUInt32 % 65536).toInt32 = dz_i z := by
  have e : dz_i z = nI z.toNat := by
    rw [← Int32.toInt_inj, dz_toInt ⟨by omega, by omega⟩, nI_toInt (by omega)]
    omega
  rw [e]
  exact Value.int.inj (by
    have := (pk_charN (q := z.toNat) (by omega)).1
    have h2 := pk_char (nI z.toNat)
    rw [h2, pk_tn (by omega), Nat.mod_eq_of_lt (by omega)])
theorem dz_nch {z : Int} (h : 0 ≤ z ∧ z < 65536) : narrow .char (.int (dz_i z)) = .int (dz_i z) := by
  have e : dz_i z = nI z.toNat := by
    rw [← Int32.toInt_inj, dz_toInt ⟨by omega, by omega⟩, nI_toInt (by omega)]
    omega
  rw [e]
  exact (pk_charN (q := z.toNat) (by omega)).1
theorem dz_nbo {z : Int} (h : z = 0 ∨ z = 1) : narrow .boolean (.int (dz_i z)) = .int (dz_i z) := by
  rcases h with rfl | rfl <;> decide
theorem dz_fbo {z : Int} (h : z = 0 ∨ z = 1) : fits .boolean (.int (dz_i z)) = true := by
  rcases h with rfl | rfl <;> decide
def dz_u {α : Type} (f : Int → α) (k : Int) (v : α) : Int → α := fun j => if j = k then v else f j
theorem dz_u_s {α : Type} (f : Int → α) (k : Int) (v : α) : dz_u f k v k = v := by simp [dz_u]
theorem dz_u_n {α : Type} (f : Int → α) {k j : Int} (v : α) (h : j ≠ k) : dz_u f k v j = f j := by simp [dz_u, h]
abbrev dz_Sk : Type := Nat → Option ((Nat × Nat) ⊕ Nat)
abbrev dz_Rf : Type := Nat → Int → Option Nat
abbrev dz_Hp : Type := Nat → Int → Int
def dz_fs : List Bool → Nat → (Int → Option Nat) → (Int → Int) → List Value
  | [], _, _, _ => []
  | b :: bs, k, r, f => (bif b then va_rf (r (k : Int)) else .int (dz_i (f (k : Int)))) :: dz_fs bs (k + 1) r f
theorem dz_fs_get (r : Int → Option Nat) (f : Int → Int) : ∀ (bs : List Bool) (k j : Nat) (b : Bool), bs[j]? = some b → (dz_fs bs k r f)[j]? = some (bif b then va_rf (r ((k + j : Nat) : Int)) else .int (dz_i (f ((k + j : Nat) : Int)))) := by
  intro bs
  induction bs with
  | nil => intro k j b h; simp at h
  | cons a t ih =>
    intro k j b h
    cases j with
    | zero => simp at h; subst h; simp [dz_fs]
    | succ j =>
      simp at h
      have h2 := ih (k + 1) j b h
      simp only [dz_fs, List.getElem?_cons_succ]
      rw [h2, show k + 1 + j = k + (j + 1) by omega]
theorem dz_fs_len (r : Int → Option Nat) (f : Int → Int) : ∀ (bs : List Bool) (k : Nat), (dz_fs bs k r f).length = bs.length := by
  intro bs
  induction bs with
  | nil => intro k; rfl
  | cons a t ih => intro k; simp [dz_fs, ih]
theorem dz_fs_ext (r r' : Int → Option Nat) (f f' : Int → Int) : ∀ (bs : List Bool) (k : Nat), (∀ j : Int, (k : Int) ≤ j → r j = r' j) → (∀ j : Int, (k : Int) ≤ j → f j = f' j) → dz_fs bs k r f = dz_fs bs k r' f' := by
  intro bs
  induction bs with
  | nil => intro k _ _; rfl
  | cons a t ih =>
    intro k hr hf
    simp only [dz_fs]
    rw [hr k (Int.le_refl _), hf k (Int.le_refl _), ih (k + 1) (fun j h => hr j (by omega)) (fun j h => hf j (by omega))]
theorem dz_fs_seti (r : Int → Option Nat) (f : Int → Int) (v : Int) : ∀ (bs : List Bool) (k j : Nat), bs[j]? = some false → (dz_fs bs k r f).set j (.int (dz_i v)) = dz_fs bs k r (dz_u f ((k + j : Nat) : Int) v) := by
  intro bs
  induction bs with
  | nil => intro k j h; simp at h
  | cons a t ih =>
    intro k j h
    cases j with
    | zero =>
      simp at h; subst h
      simp only [dz_fs, List.set_cons_zero, cond_false, Nat.add_zero, dz_u_s]
      rw [dz_fs_ext r r f (dz_u f k v) t (k + 1) (fun _ _ => rfl) (fun j hj => by rw [dz_u_n]; omega)]
    | succ j =>
      simp at h
      have h2 := ih (k + 1) j h
      simp only [dz_fs, List.set_cons_succ]
      rw [h2, show k + 1 + j = k + (j + 1) by omega, dz_u_n f v (by omega)]
theorem dz_fs_setr (r : Int → Option Nat) (f : Int → Int) (v : Option Nat) : ∀ (bs : List Bool) (k j : Nat), bs[j]? = some true → (dz_fs bs k r f).set j (va_rf v) = dz_fs bs k (dz_u r ((k + j : Nat) : Int) v) f := by
  intro bs
  induction bs with
  | nil => intro k j h; simp at h
  | cons a t ih =>
    intro k j h
    cases j with
    | zero =>
      simp at h; subst h
      simp only [dz_fs, List.set_cons_zero, cond_true, Nat.add_zero, dz_u_s]
      rw [dz_fs_ext r (dz_u r k v) f f t (k + 1) (fun j hj => by rw [dz_u_n]; omega) (fun _ _ => rfl)]
    | succ j =>
      simp at h
      have h2 := ih (k + 1) j h
      simp only [dz_fs, List.set_cons_succ]
      rw [h2, show k + 1 + j = k + (j + 1) by omega, dz_u_n r v (by omega)]
/-- an array's contents: kinds 0 int, 1 char, 2 long, others references -/
def dz_ar (k : Nat) (r : Int → Option Nat) (f : Int → Int) : (Nat → Int32) ⊕ (Nat → Int64) ⊕ (Nat → UInt32) ⊕ (Nat → UInt64) ⊕ (Nat → Option Nat) := match k with
  | 0 => .inl (fun j => dz_i (f (j : Int)))
  | 1 => .inl (fun j => dz_i (f (j : Int)))
  | 2 => .inr (.inl (fun j => (dz_i (f (j : Int))).toInt64))
  | _ => .inr (.inr (.inr (.inr (fun j => r (j : Int)))))
def dz_ce (Dt : Nat → ClassId) (x : (Nat × Nat) ⊕ Nat) (r : Int → Option Nat) (f : Int → Int) : va_E := match x with
  | .inr ci => .inr (ci, dz_fs (dz_fty ci) 0 r f)
  | .inl (k, n) => .inl (Dt k, n, dz_ar k r f)
/-- the heap holds what the abstract one says -/
def dz_W (D : va_G) (Dt : Nat → ClassId) (sk : dz_Sk) (rf : dz_Rf) (I : dz_Hp) (H : Heap) : Prop := ∀ (q : Nat) (x : (Nat × Nat) ⊕ Nat), sk q = some x → va_at D vwCl (q, dz_ce Dt x (rf q) (I q)) H
def dz_up (I : dz_Hp) (q : Nat) (k v : Int) : dz_Hp := fun q' => if q' = q then dz_u (I q) k v else I q'
def dz_ur (rf : dz_Rf) (q : Nat) (k : Int) (v : Option Nat) : dz_Rf := fun q' => if q' = q then dz_u (rf q) k v else rf q'
theorem dz_up_q (I : dz_Hp) (q : Nat) (k v : Int) : dz_up I q k v q = dz_u (I q) k v := by simp [dz_up]
theorem dz_up_n (I : dz_Hp) {q q' : Nat} (k v : Int) (h : q' ≠ q) : dz_up I q k v q' = I q' := by simp [dz_up, h]
theorem dz_up_s (I : dz_Hp) (q : Nat) (k v : Int) : dz_up I q k v q k = v := by simp [dz_up, dz_u]
theorem dz_up_k (I : dz_Hp) (q : Nat) {k k' : Int} (v : Int) (h : k' ≠ k) : dz_up I q k v q k' = I q k' := by simp [dz_up, dz_u, h]
theorem dz_W.one {D : va_G} {Dt : Nat → ClassId} {sk : dz_Sk} {rf : dz_Rf} {I : dz_Hp} {H : Heap} (h : dz_W D Dt sk rf I H) {q : Nat} {x : (Nat × Nat) ⊕ Nat} (hq : sk q = some x) : va_P D vwCl [(q, dz_ce Dt x (rf q) (I q))] H := by
  intro k y hy
  cases k with
  | zero => simp at hy; subst hy; exact h q x hq
  | succ k => simp at hy
theorem dz_W.put {D : va_G} {Dt : Nat → ClassId} {sk : dz_Sk} {rf rf' : dz_Rf} {I I' : dz_Hp} {H H1 : Heap} (h : dz_W D Dt sk rf I H) (a : Nat) (x : (Nat × Nat) ⊕ Nat) (hx : sk a = some x) (hn : va_at D vwCl (a, dz_ce Dt x (rf' a) (I' a)) H1) (ho : ∀ q : Nat, q ≠ a → H1[q]? = H[q]?) (hr : ∀ q : Nat, q ≠ a → rf' q = rf q) (hi : ∀ q : Nat, q ≠ a → I' q = I q) : dz_W D Dt sk rf' I' H1 := by
  intro q y hy
  by_cases e : q = a
  · subst e
    rw [hx] at hy
    cases hy
    exact hn
  · have h3 := (h q y hy).kept (H1 := H1) (ho q e)
    rw [hr q e, hi q e]
    exact h3
theorem dz_W.lt {D : va_G} {Dt : Nat → ClassId} {sk : dz_Sk} {rf : dz_Rf} {I : dz_Hp} {H : Heap} (h : dz_W D Dt sk rf I H) {q : Nat} {x : (Nat × Nat) ⊕ Nat} (hq : sk q = some x) : q < H.size := (h q x hq).lt
/-- the ambient of a walk: machine, launch, .., what is wanted at the end, the classes' numbers, which cells may change, how many locals -/
abbrev dz_Kx : Type := Program × Launch × Env × Room × State × MethodId × Array Value × List Frame × Method × Code × (State → Prop) × va_G × (Nat → ClassId) × (Nat → Prop) × Nat
def dz_V (κ : dz_Kx) (cells slots sz : Nat) (sk : dz_Sk) (rf : dz_Rf) (I : dz_Hp) (pc : Nat) (ls : List (Nat × Value)) (st : List Value) : Prop := match κ with
  | (p, l, e, R, s, m, args, below, meth, c, Q, D, Dt, A, nL) =>
    ∀ (H : Heap) (locs : List Loc) (la : Array Slot), H.size = sz → dz_W D Dt sk rf I H → (∀ q x, sk q = some x → A q) → va_S A s.heap H locs → (∀ q, q ∈ ls → q.2.category = 1) → lv_has la nL ls → W p l e R s m args below meth c H locs cells slots Q (F0 m pc la st)
/-- what every walk knows -/
def dz_Am (κ : dz_Kx) (cc : ByteArray) (own : String) : Prop := match κ with
  | (p, _, _, _, s, m, args, _, meth, c, _, D, Dt, A, nL) =>
    p.tables.exec = Jvm.exec ∧ c.code = cc ∧ c.maxLocals = nL ∧ s.vm.findClass own = some m.cls ∧ (∀ w ∈ dz_GW, w.before args s = true) ∧ dz_K D Dt A s ∧ (∀ q : Nat, s.heap.size ≤ q → A q) ∧ meth.locks = false ∧ (∀ (q : Nat) (x : Cell), A q → s.heap[q]? = some x → x.vm.isStatics = false)
def dz_n (κ : dz_Kx) : Nat := κ.2.2.2.2.2.2.2.2.2.2.2.2.2.2
/-- a local is set -/
def dz_st (ls : List (Nat × Value)) (i : Nat) (v : Value) : List (Nat × Value) := bif ls.any (fun q => q.1 == i) then ls.map (fun q => bif q.1 == i then (i, v) else q) else ls ++ [(i, v)]
theorem dz_st_has {la' : Array Slot} {nL i : Nat} {v : Value} {ls : List (Nat × Value)} (hv : v.category = 1) (hc : ∀ q, q ∈ ls → q.2.category = 1) (h : lv_has la' nL ((i, v) :: ls.filter (fun q => !(q.1 == i) && !(q.1 + 1 == i && q.2.category == 2)))) : lv_has la' nL (dz_st ls i v) ∧ ∀ q, q ∈ dz_st ls i v → q.2.category = 1 := by
  have key : ∀ q, q ∈ dz_st ls i v → q = (i, v) ∨ (q ∈ ls ∧ ¬ q.1 = i) := by
    intro q hq
    unfold dz_st at hq
    cases hb : ls.any (fun q => q.1 == i) with
    | true =>
      rw [hb, cond_true] at hq
      obtain ⟨z, hz, e⟩ := List.mem_map.mp hq
      by_cases hi : z.1 = i
      · left; rw [← e]; simp [hi]
      · right
        have : (z.1 == i) = false := by simpa using hi
        rw [this, cond_false] at e
        rw [← e]
        exact ⟨hz, hi⟩
    | false =>
      rw [hb, cond_false] at hq
      rcases List.mem_append.mp hq with h1 | h1
      · right
        refine ⟨h1, fun e => ?_⟩
        have h2 := List.any_eq_false.mp hb q h1
        simp [e] at h2
      · left
        exact List.mem_singleton.mp h1
  refine ⟨⟨h.1, h.2.1, fun q hq => ?_⟩, fun q hq => ?_⟩
  · rcases key q hq with e | ⟨h1, h2⟩
    · rw [e]; exact h.2.2 (i, v) List.mem_cons_self
    · refine h.2.2 q (List.mem_cons_of_mem _ (List.mem_filter.mpr ⟨h1, ?_⟩))
      have h3 := hc q h1
      simp [h2, h3]
  · rcases key q hq with e | ⟨h1, h2⟩
    · rw [e]; exact hv
    · exact hc q h1
section dz_rows
variable {κ : dz_Kx} {cc : ByteArray} {own : String} {cells slots sz : Nat} {sk : dz_Sk} {rf : dz_Rf} {I : dz_Hp} {pc nL0 : Nat} {ls : List (Nat × Value)} {st : List Value}
theorem dz_iconst (am : dz_Am κ cc own) {n : Int} (hd : decode cc pc = .ok (.iconst n, 1)) (k : dz_V κ cells slots sz sk rf I (pc + 1) ls (.int (dz_i n) :: st)) : dz_V κ cells slots sz sk rf I pc ls st := by
  obtain ⟨p, l, e, R, s, m, args, below, meth, c, Q, D, Dt, A, nL⟩ := κ
  obtain ⟨hx, hb, hml, hown, hts, hK, hA, hlk, hns⟩ := am
  intro H locs la hz hW hsA hS hc hl
  exact lv_iconst hx hb hd rfl (k H locs la hz hW hsA hS hc hl)
theorem dz_bipush (am : dz_Am κ cc own) {n : Int} (hd : decode cc pc = .ok (.bipush n, 2)) (hv : (Int8.ofInt n).toInt32 = dz_i n) (k : dz_V κ cells slots sz sk rf I (pc + 2) ls (.int (dz_i n) :: st)) : dz_V κ cells slots sz sk rf I pc ls st := by
  obtain ⟨p, l, e, R, s, m, args, below, meth, c, Q, D, Dt, A, nL⟩ := κ
  obtain ⟨hx, hb, hml, hown, hts, hK, hA, hlk, hns⟩ := am
  intro H locs la hz hW hsA hS hc hl
  exact lv_bipush hx hb hd hv (k H locs la hz hW hsA hS hc hl)
theorem dz_sipush (am : dz_Am κ cc own) {n : Int} (hd : decode cc pc = .ok (.sipush n, 3)) (hv : (Int16.ofInt n).toInt32 = dz_i n) (k : dz_V κ cells slots sz sk rf I (pc + 3) ls (.int (dz_i n) :: st)) : dz_V κ cells slots sz sk rf I pc ls st := by
  obtain ⟨p, l, e, R, s, m, args, below, meth, c, Q, D, Dt, A, nL⟩ := κ
  obtain ⟨hx, hb, hml, hown, hts, hK, hA, hlk, hns⟩ := am
  intro H locs la hz hW hsA hS hc hl
  exact lv_sipush hx hb hd hv (k H locs la hz hW hsA hS hc hl)
theorem dz_iload_n (am : dz_Am κ cc own) {k : Fin 4} {i : Nat} {x : Int32} (j : Nat) (hd : decode cc pc = .ok (.iload_n k, 1)) (hi : (k : Nat) = i) (hj : ls[j]? = some (i, .int x)) (kk : dz_V κ cells slots sz sk rf I (pc + 1) ls (.int x :: st)) : dz_V κ cells slots sz sk rf I pc ls st := by
  obtain ⟨p, l, e, R, s, m, args, below, meth, c, Q, D, Dt, A, nL⟩ := κ
  obtain ⟨hx, hb, hml, hown, hts, hK, hA, hlk, hns⟩ := am
  intro H locs la hz hW hsA hS hc hl
  exact lv_iload_n hx hb hd hi (lv_at hl j hj) (kk H locs la hz hW hsA hS hc hl)
theorem dz_iload (am : dz_Am κ cc own) {i : Nat} {x : Int32} (j : Nat) (hd : decode cc pc = .ok (.iload i, 2)) (hj : ls[j]? = some (i, .int x)) (kk : dz_V κ cells slots sz sk rf I (pc + 2) ls (.int x :: st)) : dz_V κ cells slots sz sk rf I pc ls st := by
  obtain ⟨p, l, e, R, s, m, args, below, meth, c, Q, D, Dt, A, nL⟩ := κ
  obtain ⟨hx, hb, hml, hown, hts, hK, hA, hlk, hns⟩ := am
  intro H locs la hz hW hsA hS hc hl
  exact lv_iload hx hb hd (lv_at hl j hj) (kk H locs la hz hW hsA hS hc hl)
theorem dz_aload_n (am : dz_Am κ cc own) {k : Fin 4} {i : Nat} {x : Nat} (j : Nat) (hd : decode cc pc = .ok (.aload_n k, 1)) (hi : (k : Nat) = i) (hj : ls[j]? = some (i, .ref x)) (kk : dz_V κ cells slots sz sk rf I (pc + 1) ls (.ref x :: st)) : dz_V κ cells slots sz sk rf I pc ls st := by
  obtain ⟨p, l, e, R, s, m, args, below, meth, c, Q, D, Dt, A, nL⟩ := κ
  obtain ⟨hx, hb, hml, hown, hts, hK, hA, hlk, hns⟩ := am
  intro H locs la hz hW hsA hS hc hl
  exact lv_aload_n hx hb hd hi (lv_at hl j hj) (kk H locs la hz hW hsA hS hc hl)
theorem dz_aload (am : dz_Am κ cc own) {i : Nat} {x : Nat} (j : Nat) (hd : decode cc pc = .ok (.aload i, 2)) (hj : ls[j]? = some (i, .ref x)) (kk : dz_V κ cells slots sz sk rf I (pc + 2) ls (.ref x :: st)) : dz_V κ cells slots sz sk rf I pc ls st := by
  obtain ⟨p, l, e, R, s, m, args, below, meth, c, Q, D, Dt, A, nL⟩ := κ
  obtain ⟨hx, hb, hml, hown, hts, hK, hA, hlk, hns⟩ := am
  intro H locs la hz hW hsA hS hc hl
  exact lv_aload hx hb hd (lv_at hl j hj) (kk H locs la hz hW hsA hS hc hl)
theorem dz_aload_nN (am : dz_Am κ cc own) {k : Fin 4} {i : Nat} (j : Nat) (hd : decode cc pc = .ok (.aload_n k, 1)) (hi : (k : Nat) = i) (hj : ls[j]? = some (i, .null)) (kk : dz_V κ cells slots sz sk rf I (pc + 1) ls (.null :: st)) : dz_V κ cells slots sz sk rf I pc ls st := by
  obtain ⟨p, l, e, R, s, m, args, below, meth, c, Q, D, Dt, A, nL⟩ := κ
  obtain ⟨hx, hb, hml, hown, hts, hK, hA, hlk, hns⟩ := am
  intro H locs la hz hW hsA hS hc hl
  exact lv_aload_nN hx hb hd hi (lv_at hl j hj) (kk H locs la hz hW hsA hS hc hl)
theorem dz_aloadN (am : dz_Am κ cc own) {i : Nat} (j : Nat) (hd : decode cc pc = .ok (.aload i, 2)) (hj : ls[j]? = some (i, .null)) (kk : dz_V κ cells slots sz sk rf I (pc + 2) ls (.null :: st)) : dz_V κ cells slots sz sk rf I pc ls st := by
  obtain ⟨p, l, e, R, s, m, args, below, meth, c, Q, D, Dt, A, nL⟩ := κ
  obtain ⟨hx, hb, hml, hown, hts, hK, hA, hlk, hns⟩ := am
  intro H locs la hz hW hsA hS hc hl
  exact lv_aloadN hx hb hd (lv_at hl j hj) (kk H locs la hz hW hsA hS hc hl)
theorem dz_null (am : dz_Am κ cc own) (hd : decode cc pc = .ok (.aconst_null, 1)) (kk : dz_V κ cells slots sz sk rf I (pc + 1) ls (.null :: st)) : dz_V κ cells slots sz sk rf I pc ls st := by
  obtain ⟨p, l, e, R, s, m, args, below, meth, c, Q, D, Dt, A, nL⟩ := κ
  obtain ⟨hx, hb, hml, hown, hts, hK, hA, hlk, hns⟩ := am
  intro H locs la hz hW hsA hS hc hl
  exact lv_null hx hb hd (kk H locs la hz hW hsA hS hc hl)
theorem dz_istore_n (am : dz_Am κ cc own) {k : Fin 4} {x : Int32} {i : Nat} {ls' : List (Nat × Value)} (hd : decode cc pc = .ok (.istore_n k, 1)) (hi : (k : Nat) = i) (hN : dz_n κ = nL0) (hn : i < nL0) (hl' : dz_st ls i (Value.int x) = ls') (kk : dz_V κ cells slots sz sk rf I (pc + 1) ls' st) : dz_V κ cells slots sz sk rf I pc ls ((Value.int x) :: st) := by
  obtain ⟨p, l, e, R, s, m, args, below, meth, c, Q, D, Dt, A, nL⟩ := κ
  obtain ⟨hx, hb, hml, hown, hts, hK, hA, hlk, hns⟩ := am
  intro H locs la hz hW hsA hS hc hl
  subst hl'
  refine lv_istore_n hx hb hd hi hl (by change nL = nL0 at hN; omega) rfl (fun la' h' => ?_)
  obtain ⟨h1, h2⟩ := dz_st_has (v := (Value.int x)) rfl hc h'
  exact kk H locs la' hz hW hsA hS h2 h1
theorem dz_istore (am : dz_Am κ cc own) {x : Int32} {i : Nat} {ls' : List (Nat × Value)} (hd : decode cc pc = .ok (.istore i, 2)) (hN : dz_n κ = nL0) (hn : i < nL0) (hl' : dz_st ls i (Value.int x) = ls') (kk : dz_V κ cells slots sz sk rf I (pc + 2) ls' st) : dz_V κ cells slots sz sk rf I pc ls ((Value.int x) :: st) := by
  obtain ⟨p, l, e, R, s, m, args, below, meth, c, Q, D, Dt, A, nL⟩ := κ
  obtain ⟨hx, hb, hml, hown, hts, hK, hA, hlk, hns⟩ := am
  intro H locs la hz hW hsA hS hc hl
  subst hl'
  refine lv_istore hx hb hd hl (by change nL = nL0 at hN; omega) rfl (fun la' h' => ?_)
  obtain ⟨h1, h2⟩ := dz_st_has (v := (Value.int x)) rfl hc h'
  exact kk H locs la' hz hW hsA hS h2 h1
theorem dz_astore_n (am : dz_Am κ cc own) {k : Fin 4} {x : Nat} {i : Nat} {ls' : List (Nat × Value)} (hd : decode cc pc = .ok (.astore_n k, 1)) (hi : (k : Nat) = i) (hN : dz_n κ = nL0) (hn : i < nL0) (hl' : dz_st ls i (Value.ref x) = ls') (kk : dz_V κ cells slots sz sk rf I (pc + 1) ls' st) : dz_V κ cells slots sz sk rf I pc ls ((Value.ref x) :: st) := by
  obtain ⟨p, l, e, R, s, m, args, below, meth, c, Q, D, Dt, A, nL⟩ := κ
  obtain ⟨hx, hb, hml, hown, hts, hK, hA, hlk, hns⟩ := am
  intro H locs la hz hW hsA hS hc hl
  subst hl'
  refine lv_astore_n hx hb hd hi hl (by change nL = nL0 at hN; omega) rfl (fun la' h' => ?_)
  obtain ⟨h1, h2⟩ := dz_st_has (v := (Value.ref x)) rfl hc h'
  exact kk H locs la' hz hW hsA hS h2 h1
theorem dz_astore (am : dz_Am κ cc own) {x : Nat} {i : Nat} {ls' : List (Nat × Value)} (hd : decode cc pc = .ok (.astore i, 2)) (hN : dz_n κ = nL0) (hn : i < nL0) (hl' : dz_st ls i (Value.ref x) = ls') (kk : dz_V κ cells slots sz sk rf I (pc + 2) ls' st) : dz_V κ cells slots sz sk rf I pc ls ((Value.ref x) :: st) := by
  obtain ⟨p, l, e, R, s, m, args, below, meth, c, Q, D, Dt, A, nL⟩ := κ
  obtain ⟨hx, hb, hml, hown, hts, hK, hA, hlk, hns⟩ := am
  intro H locs la hz hW hsA hS hc hl
  subst hl'
  refine lv_astore hx hb hd hl (by change nL = nL0 at hN; omega) rfl (fun la' h' => ?_)
  obtain ⟨h1, h2⟩ := dz_st_has (v := (Value.ref x)) rfl hc h'
  exact kk H locs la' hz hW hsA hS h2 h1
theorem dz_astore_nN (am : dz_Am κ cc own) {k : Fin 4}  {i : Nat} {ls' : List (Nat × Value)} (hd : decode cc pc = .ok (.astore_n k, 1)) (hi : (k : Nat) = i) (hN : dz_n κ = nL0) (hn : i < nL0) (hl' : dz_st ls i Value.null = ls') (kk : dz_V κ cells slots sz sk rf I (pc + 1) ls' st) : dz_V κ cells slots sz sk rf I pc ls (Value.null :: st) := by
  obtain ⟨p, l, e, R, s, m, args, below, meth, c, Q, D, Dt, A, nL⟩ := κ
  obtain ⟨hx, hb, hml, hown, hts, hK, hA, hlk, hns⟩ := am
  intro H locs la hz hW hsA hS hc hl
  subst hl'
  refine lv_astore_nN hx hb hd hi hl (by change nL = nL0 at hN; omega) rfl (fun la' h' => ?_)
  obtain ⟨h1, h2⟩ := dz_st_has (v := Value.null) rfl hc h'
  exact kk H locs la' hz hW hsA hS h2 h1
theorem dz_astoreN (am : dz_Am κ cc own)  {i : Nat} {ls' : List (Nat × Value)} (hd : decode cc pc = .ok (.astore i, 2)) (hN : dz_n κ = nL0) (hn : i < nL0) (hl' : dz_st ls i Value.null = ls') (kk : dz_V κ cells slots sz sk rf I (pc + 2) ls' st) : dz_V κ cells slots sz sk rf I pc ls (Value.null :: st) := by
  obtain ⟨p, l, e, R, s, m, args, below, meth, c, Q, D, Dt, A, nL⟩ := κ
  obtain ⟨hx, hb, hml, hown, hts, hK, hA, hlk, hns⟩ := am
  intro H locs la hz hW hsA hS hc hl
  subst hl'
  refine lv_astoreN hx hb hd hl (by change nL = nL0 at hN; omega) rfl (fun la' h' => ?_)
  obtain ⟨h1, h2⟩ := dz_st_has (v := Value.null) rfl hc h'
  exact kk H locs la' hz hW hsA hS h2 h1
theorem dz_iinc (am : dz_Am κ cc own) {i : Nat} {n x z : Int} {ls' : List (Nat × Value)} (j : Nat) (hd : decode cc pc = .ok (.iinc i n, 3)) (hj : ls[j]? = some (i, .int (dz_i x))) (hN : dz_n κ = nL0) (hn : i < nL0) (hz' : x + n = z) (hl' : dz_st ls i (.int (dz_i z)) = ls') (kk : dz_V κ cells slots sz sk rf I (pc + 3) ls' st) : dz_V κ cells slots sz sk rf I pc ls st := by
  obtain ⟨p, l, e, R, s, m, args, below, meth, c, Q, D, Dt, A, nL⟩ := κ
  obtain ⟨hx, hb, hml, hown, hts, hK, hA, hlk, hns⟩ := am
  intro H locs la hz hW hsA hS hc hl
  subst hl'
  subst hz'
  refine lv_iinc (v := dz_i (x + n)) hx hb hd hl hj (dz_add x n) (by change nL = nL0 at hN; omega) rfl (fun la' h' => ?_)
  obtain ⟨h1, h2⟩ := dz_st_has (v := .int (dz_i (x + n))) rfl hc h'
  exact kk H locs la' hz hW hsA hS h2 h1
theorem dz_iadd (am : dz_Am κ cc own) {x y z : Int} (hd : decode cc pc = .ok (.iadd, 1)) (hz' : x + y = z) (k : dz_V κ cells slots sz sk rf I (pc + 1) ls (.int (dz_i z) :: st)) : dz_V κ cells slots sz sk rf I pc ls (.int (dz_i y) :: .int (dz_i x) :: st) := by
  obtain ⟨p, l, e, R, s, m, args, below, meth, c, Q, D, Dt, A, nL⟩ := κ
  obtain ⟨hx, hb, hml, hown, hts, hK, hA, hlk, hns⟩ := am
  intro H locs la hz hW hsA hS hc hl
  subst hz'
  refine lv_iadd hx hb hd ?_
  rw [dz_add]
  exact k H locs la hz hW hsA hS hc hl
theorem dz_isub (am : dz_Am κ cc own) {x y z : Int} (hd : decode cc pc = .ok (.isub, 1)) (hz' : x - y = z) (k : dz_V κ cells slots sz sk rf I (pc + 1) ls (.int (dz_i z) :: st)) : dz_V κ cells slots sz sk rf I pc ls (.int (dz_i y) :: .int (dz_i x) :: st) := by
  obtain ⟨p, l, e, R, s, m, args, below, meth, c, Q, D, Dt, A, nL⟩ := κ
  obtain ⟨hx, hb, hml, hown, hts, hK, hA, hlk, hns⟩ := am
  intro H locs la hz hW hsA hS hc hl
  subst hz'
  refine lv_isub hx hb hd ?_
  rw [dz_sub]
  exact k H locs la hz hW hsA hS hc hl
theorem dz_imul (am : dz_Am κ cc own) {x y z : Int} (hd : decode cc pc = .ok (.imul, 1)) (hz' : x * y = z) (k : dz_V κ cells slots sz sk rf I (pc + 1) ls (.int (dz_i z) :: st)) : dz_V κ cells slots sz sk rf I pc ls (.int (dz_i y) :: .int (dz_i x) :: st) := by
  obtain ⟨p, l, e, R, s, m, args, below, meth, c, Q, D, Dt, A, nL⟩ := κ
  obtain ⟨hx, hb, hml, hown, hts, hK, hA, hlk, hns⟩ := am
  intro H locs la hz hW hsA hS hc hl
  subst hz'
  refine lv_imul hx hb hd ?_
  rw [dz_mul]
  exact k H locs la hz hW hsA hS hc hl
theorem dz_idiv (am : dz_Am κ cc own) {x y : Int} (hd : decode cc pc = .ok (.idiv, 1)) (h1 : 0 ≤ x ∧ x < 2147483648) (h2 : 0 < y ∧ y < 2147483648) (k : dz_V κ cells slots sz sk rf I (pc + 1) ls (.int (dz_i (x / y)) :: st)) : dz_V κ cells slots sz sk rf I pc ls (.int (dz_i y) :: .int (dz_i x) :: st) := by
  obtain ⟨p, l, e, R, s, m, args, below, meth, c, Q, D, Dt, A, nL⟩ := κ
  obtain ⟨hx, hb, hml, hown, hts, hK, hA, hlk, hns⟩ := am
  intro H locs la hz hW hsA hS hc hl
  refine lv_idiv hx hb hd (fun z => by rw [dz_0, dz_eq (by omega) (by omega)] at z; omega) ?_
  rw [dz_div h1 h2]
  exact k H locs la hz hW hsA hS hc hl
theorem dz_irem (am : dz_Am κ cc own) {x y : Int} (hd : decode cc pc = .ok (.irem, 1)) (h1 : 0 ≤ x ∧ x < 2147483648) (h2 : 0 < y ∧ y < 2147483648) (k : dz_V κ cells slots sz sk rf I (pc + 1) ls (.int (dz_i (x % y)) :: st)) : dz_V κ cells slots sz sk rf I pc ls (.int (dz_i y) :: .int (dz_i x) :: st) := by
  obtain ⟨p, l, e, R, s, m, args, below, meth, c, Q, D, Dt, A, nL⟩ := κ
  obtain ⟨hx, hb, hml, hown, hts, hK, hA, hlk, hns⟩ := am
  intro H locs la hz hW hsA hS hc hl
  refine lv_irem hx hb hd (fun z => by rw [dz_0, dz_eq (by omega) (by omega)] at z; omega) ?_
  rw [dz_rem h1 h2]
  exact k H locs la hz hW hsA hS hc hl
theorem dz_ishl (am : dz_Am κ cc own) {x y z : Int} (hd : decode cc pc = .ok (.ishl, 1)) (hzz : dz_i x <<< (dz_i y &&& 31) = dz_i z) (k : dz_V κ cells slots sz sk rf I (pc + 1) ls (.int (dz_i z) :: st)) : dz_V κ cells slots sz sk rf I pc ls (.int (dz_i y) :: .int (dz_i x) :: st) := by
  obtain ⟨p, l, e, R, s, m, args, below, meth, c, Q, D, Dt, A, nL⟩ := κ
  obtain ⟨hx, hb, hml, hown, hts, hK, hA, hlk, hns⟩ := am
  intro H locs la hz hW hsA hS hc hl
  refine lv_ishl hx hb hd ?_
  rw [hzz]
  exact k H locs la hz hW hsA hS hc hl
theorem dz_iand (am : dz_Am κ cc own) {x y z : Int} (hd : decode cc pc = .ok (.iand, 1)) (hzz : dz_i x &&& dz_i y = dz_i z) (k : dz_V κ cells slots sz sk rf I (pc + 1) ls (.int (dz_i z) :: st)) : dz_V κ cells slots sz sk rf I pc ls (.int (dz_i y) :: .int (dz_i x) :: st) := by
  obtain ⟨p, l, e, R, s, m, args, below, meth, c, Q, D, Dt, A, nL⟩ := κ
  obtain ⟨hx, hb, hml, hown, hts, hK, hA, hlk, hns⟩ := am
  intro H locs la hz hW hsA hS hc hl
  refine lv_iand hx hb hd ?_
  rw [hzz]
  exact k H locs la hz hW hsA hS hc hl
theorem dz_i2c (am : dz_Am κ cc own) {x : Int} (hd : decode cc pc = .ok (.i2c, 1)) (h1 : 0 ≤ x ∧ x < 65536) (k : dz_V κ cells slots sz sk rf I (pc + 1) ls (.int (dz_i x) :: st)) : dz_V κ cells slots sz sk rf I pc ls (.int (dz_i x) :: st) := by
  obtain ⟨p, l, e, R, s, m, args, below, meth, c, Q, D, Dt, A, nL⟩ := κ
  obtain ⟨hx, hb, hml, hown, hts, hK, hA, hlk, hns⟩ := am
  intro H locs la hz hW hsA hS hc hl
  exact lv_i2c hx hb hd (dz_chr h1) (k H locs la hz hW hsA hS hc hl)
theorem dz_i2l (am : dz_Am κ cc own) {x : Int32} (hd : decode cc pc = .ok (.i2l, 1)) (k : dz_V κ cells slots sz sk rf I (pc + 1) ls (.long x.toInt64 :: st)) : dz_V κ cells slots sz sk rf I pc ls (.int x :: st) := by
  obtain ⟨p, l, e, R, s, m, args, below, meth, c, Q, D, Dt, A, nL⟩ := κ
  obtain ⟨hx, hb, hml, hown, hts, hK, hA, hlk, hns⟩ := am
  intro H locs la hz hW hsA hS hc hl
  exact lv_i2l hx hb hd rfl (k H locs la hz hW hsA hS hc hl)
theorem dz_dup (am : dz_Am κ cc own) {v : Value} (hd : decode cc pc = .ok (.dup, 1)) (hv : v.category = 1) (k : dz_V κ cells slots sz sk rf I (pc + 1) ls (v :: v :: st)) : dz_V κ cells slots sz sk rf I pc ls (v :: st) := by
  obtain ⟨p, l, e, R, s, m, args, below, meth, c, Q, D, Dt, A, nL⟩ := κ
  obtain ⟨hx, hb, hml, hown, hts, hK, hA, hlk, hns⟩ := am
  intro H locs la hz hW hsA hS hc hl
  exact lv_dup hx hb hd hv (k H locs la hz hW hsA hS hc hl)
theorem dz_pop (am : dz_Am κ cc own) {v : Value} (hd : decode cc pc = .ok (.pop, 1)) (hv : v.category = 1) (k : dz_V κ cells slots sz sk rf I (pc + 1) ls st) : dz_V κ cells slots sz sk rf I pc ls (v :: st) := by
  obtain ⟨p, l, e, R, s, m, args, below, meth, c, Q, D, Dt, A, nL⟩ := κ
  obtain ⟨hx, hb, hml, hown, hts, hK, hA, hlk, hns⟩ := am
  intro H locs la hz hW hsA hS hc hl
  exact lv_pop hx hb hd hv (k H locs la hz hW hsA hS hc hl)
theorem dz_dup_x1 (am : dz_Am κ cc own) {v w : Value} (hd : decode cc pc = .ok (.dup_x1, 1)) (hv : v.category = 1) (hw : w.category = 1) (k : dz_V κ cells slots sz sk rf I (pc + 1) ls (v :: w :: v :: st)) : dz_V κ cells slots sz sk rf I pc ls (v :: w :: st) := by
  obtain ⟨p, l, e, R, s, m, args, below, meth, c, Q, D, Dt, A, nL⟩ := κ
  obtain ⟨hx, hb, hml, hown, hts, hK, hA, hlk, hns⟩ := am
  intro H locs la hz hW hsA hS hc hl
  exact lv_dup_x1 hx hb hd hv hw (k H locs la hz hW hsA hS hc hl)
theorem dz_dup_x2 (am : dz_Am κ cc own) {v w u : Value} (hd : decode cc pc = .ok (.dup_x2, 1)) (hv : v.category = 1) (hw : w.category = 1) (hu : u.category = 1) (k : dz_V κ cells slots sz sk rf I (pc + 1) ls (v :: w :: u :: v :: st)) : dz_V κ cells slots sz sk rf I pc ls (v :: w :: u :: st) := by
  obtain ⟨p, l, e, R, s, m, args, below, meth, c, Q, D, Dt, A, nL⟩ := κ
  obtain ⟨hx, hb, hml, hown, hts, hK, hA, hlk, hns⟩ := am
  intro H locs la hz hW hsA hS hc hl
  exact lv_dup_x2 hx hb hd hv hw hu (k H locs la hz hW hsA hS hc hl)
theorem dz_dup2 (am : dz_Am κ cc own) {v w : Value} (hd : decode cc pc = .ok (.dup2, 1)) (hv : v.category = 1) (hw : w.category = 1) (k : dz_V κ cells slots sz sk rf I (pc + 1) ls (v :: w :: v :: w :: st)) : dz_V κ cells slots sz sk rf I pc ls (v :: w :: st) := by
  obtain ⟨p, l, e, R, s, m, args, below, meth, c, Q, D, Dt, A, nL⟩ := κ
  obtain ⟨hx, hb, hml, hown, hts, hK, hA, hlk, hns⟩ := am
  intro H locs la hz hW hsA hS hc hl
  exact lv_dup2_11 hx hb hd hv hw (k H locs la hz hW hsA hS hc hl)
theorem dz_icmp_eq (am : dz_Am κ cc own) {x y : Int} {off : Int} {tgt : Nat} (hd : decode cc pc = .ok (.if_icmp .eq off, 3)) (ht : (pc : Int) + off = (tgt : Int)) (h1 : -2147483648 ≤ x ∧ x < 2147483648) (h2 : -2147483648 ≤ y ∧ y < 2147483648) (kt : x = y → dz_V κ cells slots sz sk rf I tgt ls st) (kf : ¬ x = y → dz_V κ cells slots sz sk rf I (pc + 3) ls st) : dz_V κ cells slots sz sk rf I pc ls (.int (dz_i y) :: .int (dz_i x) :: st) := by
  obtain ⟨p, l, e, R, s, m, args, below, meth, c, Q, D, Dt, A, nL⟩ := κ
  obtain ⟨hx, hb, hml, hown, hts, hK, hA, hlk, hns⟩ := am
  intro H locs la hz hW hsA hS hc hl
  have e1 := dz_lt h1 h2
  have e2 := dz_le h1 h2
  have e3 := dz_eq h1 h2
  have e4 := dz_lt h2 h1
  have e5 := dz_le h2 h1
  exact lv_icmp_eq hx hb hd ht (fun z => kt (by simp only [ge_iff_le, gt_iff_lt, ne_eq, e1, e2, e3, e4, e5] at z; omega) H locs la hz hW hsA hS hc hl) (fun z => kf (by simp only [ge_iff_le, gt_iff_lt, ne_eq, e1, e2, e3, e4, e5] at z; omega) H locs la hz hW hsA hS hc hl)
theorem dz_if_eq (am : dz_Am κ cc own) {x : Int} {off : Int} {tgt : Nat} (hd : decode cc pc = .ok (.ifCond .eq off, 3)) (ht : (pc : Int) + off = (tgt : Int)) (h1 : -2147483648 ≤ x ∧ x < 2147483648) (kt : x = 0 → dz_V κ cells slots sz sk rf I tgt ls st) (kf : ¬ x = 0 → dz_V κ cells slots sz sk rf I (pc + 3) ls st) : dz_V κ cells slots sz sk rf I pc ls (.int (dz_i x) :: st) := by
  obtain ⟨p, l, e, R, s, m, args, below, meth, c, Q, D, Dt, A, nL⟩ := κ
  obtain ⟨hx, hb, hml, hown, hts, hK, hA, hlk, hns⟩ := am
  intro H locs la hz hW hsA hS hc hl
  have h2 : -2147483648 ≤ (0 : Int) ∧ (0 : Int) < 2147483648 := by omega
  have e1 := dz_lt h1 h2
  have e2 := dz_le h1 h2
  have e3 := dz_eq h1 h2
  have e4 := dz_lt h2 h1
  have e5 := dz_le h2 h1
  rw [← dz_0] at e1 e2 e3 e4 e5
  exact lv_if_eq hx hb hd ht (fun z => kt (by simp only [ge_iff_le, gt_iff_lt, ne_eq, e1, e2, e3, e4, e5] at z; omega) H locs la hz hW hsA hS hc hl) (fun z => kf (by simp only [ge_iff_le, gt_iff_lt, ne_eq, e1, e2, e3, e4, e5] at z; omega) H locs la hz hW hsA hS hc hl)
theorem dz_icmp_ne (am : dz_Am κ cc own) {x y : Int} {off : Int} {tgt : Nat} (hd : decode cc pc = .ok (.if_icmp .ne off, 3)) (ht : (pc : Int) + off = (tgt : Int)) (h1 : -2147483648 ≤ x ∧ x < 2147483648) (h2 : -2147483648 ≤ y ∧ y < 2147483648) (kt : ¬ x = y → dz_V κ cells slots sz sk rf I tgt ls st) (kf : x = y → dz_V κ cells slots sz sk rf I (pc + 3) ls st) : dz_V κ cells slots sz sk rf I pc ls (.int (dz_i y) :: .int (dz_i x) :: st) := by
  obtain ⟨p, l, e, R, s, m, args, below, meth, c, Q, D, Dt, A, nL⟩ := κ
  obtain ⟨hx, hb, hml, hown, hts, hK, hA, hlk, hns⟩ := am
  intro H locs la hz hW hsA hS hc hl
  have e1 := dz_lt h1 h2
  have e2 := dz_le h1 h2
  have e3 := dz_eq h1 h2
  have e4 := dz_lt h2 h1
  have e5 := dz_le h2 h1
  exact lv_icmp_ne hx hb hd ht (fun z => kt (by simp only [ge_iff_le, gt_iff_lt, ne_eq, e1, e2, e3, e4, e5] at z; omega) H locs la hz hW hsA hS hc hl) (fun z => kf (by simp only [ge_iff_le, gt_iff_lt, ne_eq, e1, e2, e3, e4, e5] at z; omega) H locs la hz hW hsA hS hc hl)
theorem dz_if_ne (am : dz_Am κ cc own) {x : Int} {off : Int} {tgt : Nat} (hd : decode cc pc = .ok (.ifCond .ne off, 3)) (ht : (pc : Int) + off = (tgt : Int)) (h1 : -2147483648 ≤ x ∧ x < 2147483648) (kt : ¬ x = 0 → dz_V κ cells slots sz sk rf I tgt ls st) (kf : x = 0 → dz_V κ cells slots sz sk rf I (pc + 3) ls st) : dz_V κ cells slots sz sk rf I pc ls (.int (dz_i x) :: st) := by
  obtain ⟨p, l, e, R, s, m, args, below, meth, c, Q, D, Dt, A, nL⟩ := κ
  obtain ⟨hx, hb, hml, hown, hts, hK, hA, hlk, hns⟩ := am
  intro H locs la hz hW hsA hS hc hl
  have h2 : -2147483648 ≤ (0 : Int) ∧ (0 : Int) < 2147483648 := by omega
  have e1 := dz_lt h1 h2
  have e2 := dz_le h1 h2
  have e3 := dz_eq h1 h2
  have e4 := dz_lt h2 h1
  have e5 := dz_le h2 h1
  rw [← dz_0] at e1 e2 e3 e4 e5
  exact lv_if_ne hx hb hd ht (fun z => kt (by simp only [ge_iff_le, gt_iff_lt, ne_eq, e1, e2, e3, e4, e5] at z; omega) H locs la hz hW hsA hS hc hl) (fun z => kf (by simp only [ge_iff_le, gt_iff_lt, ne_eq, e1, e2, e3, e4, e5] at z; omega) H locs la hz hW hsA hS hc hl)
theorem dz_icmp_lt (am : dz_Am κ cc own) {x y : Int} {off : Int} {tgt : Nat} (hd : decode cc pc = .ok (.if_icmp .lt off, 3)) (ht : (pc : Int) + off = (tgt : Int)) (h1 : -2147483648 ≤ x ∧ x < 2147483648) (h2 : -2147483648 ≤ y ∧ y < 2147483648) (kt : x < y → dz_V κ cells slots sz sk rf I tgt ls st) (kf : y ≤ x → dz_V κ cells slots sz sk rf I (pc + 3) ls st) : dz_V κ cells slots sz sk rf I pc ls (.int (dz_i y) :: .int (dz_i x) :: st) := by
  obtain ⟨p, l, e, R, s, m, args, below, meth, c, Q, D, Dt, A, nL⟩ := κ
  obtain ⟨hx, hb, hml, hown, hts, hK, hA, hlk, hns⟩ := am
  intro H locs la hz hW hsA hS hc hl
  have e1 := dz_lt h1 h2
  have e2 := dz_le h1 h2
  have e3 := dz_eq h1 h2
  have e4 := dz_lt h2 h1
  have e5 := dz_le h2 h1
  exact lv_icmp_lt hx hb hd ht (fun z => kt (by simp only [ge_iff_le, gt_iff_lt, ne_eq, e1, e2, e3, e4, e5] at z; omega) H locs la hz hW hsA hS hc hl) (fun z => kf (by simp only [ge_iff_le, gt_iff_lt, ne_eq, e1, e2, e3, e4, e5] at z; omega) H locs la hz hW hsA hS hc hl)
theorem dz_if_lt (am : dz_Am κ cc own) {x : Int} {off : Int} {tgt : Nat} (hd : decode cc pc = .ok (.ifCond .lt off, 3)) (ht : (pc : Int) + off = (tgt : Int)) (h1 : -2147483648 ≤ x ∧ x < 2147483648) (kt : x < 0 → dz_V κ cells slots sz sk rf I tgt ls st) (kf : 0 ≤ x → dz_V κ cells slots sz sk rf I (pc + 3) ls st) : dz_V κ cells slots sz sk rf I pc ls (.int (dz_i x) :: st) := by
  obtain ⟨p, l, e, R, s, m, args, below, meth, c, Q, D, Dt, A, nL⟩ := κ
  obtain ⟨hx, hb, hml, hown, hts, hK, hA, hlk, hns⟩ := am
  intro H locs la hz hW hsA hS hc hl
  have h2 : -2147483648 ≤ (0 : Int) ∧ (0 : Int) < 2147483648 := by omega
  have e1 := dz_lt h1 h2
  have e2 := dz_le h1 h2
  have e3 := dz_eq h1 h2
  have e4 := dz_lt h2 h1
  have e5 := dz_le h2 h1
  rw [← dz_0] at e1 e2 e3 e4 e5
  exact lv_if_lt hx hb hd ht (fun z => kt (by simp only [ge_iff_le, gt_iff_lt, ne_eq, e1, e2, e3, e4, e5] at z; omega) H locs la hz hW hsA hS hc hl) (fun z => kf (by simp only [ge_iff_le, gt_iff_lt, ne_eq, e1, e2, e3, e4, e5] at z; omega) H locs la hz hW hsA hS hc hl)
theorem dz_icmp_ge (am : dz_Am κ cc own) {x y : Int} {off : Int} {tgt : Nat} (hd : decode cc pc = .ok (.if_icmp .ge off, 3)) (ht : (pc : Int) + off = (tgt : Int)) (h1 : -2147483648 ≤ x ∧ x < 2147483648) (h2 : -2147483648 ≤ y ∧ y < 2147483648) (kt : y ≤ x → dz_V κ cells slots sz sk rf I tgt ls st) (kf : x < y → dz_V κ cells slots sz sk rf I (pc + 3) ls st) : dz_V κ cells slots sz sk rf I pc ls (.int (dz_i y) :: .int (dz_i x) :: st) := by
  obtain ⟨p, l, e, R, s, m, args, below, meth, c, Q, D, Dt, A, nL⟩ := κ
  obtain ⟨hx, hb, hml, hown, hts, hK, hA, hlk, hns⟩ := am
  intro H locs la hz hW hsA hS hc hl
  have e1 := dz_lt h1 h2
  have e2 := dz_le h1 h2
  have e3 := dz_eq h1 h2
  have e4 := dz_lt h2 h1
  have e5 := dz_le h2 h1
  exact lv_icmp_ge hx hb hd ht (fun z => kt (by simp only [ge_iff_le, gt_iff_lt, ne_eq, e1, e2, e3, e4, e5] at z; omega) H locs la hz hW hsA hS hc hl) (fun z => kf (by simp only [ge_iff_le, gt_iff_lt, ne_eq, e1, e2, e3, e4, e5] at z; omega) H locs la hz hW hsA hS hc hl)
theorem dz_if_ge (am : dz_Am κ cc own) {x : Int} {off : Int} {tgt : Nat} (hd : decode cc pc = .ok (.ifCond .ge off, 3)) (ht : (pc : Int) + off = (tgt : Int)) (h1 : -2147483648 ≤ x ∧ x < 2147483648) (kt : 0 ≤ x → dz_V κ cells slots sz sk rf I tgt ls st) (kf : x < 0 → dz_V κ cells slots sz sk rf I (pc + 3) ls st) : dz_V κ cells slots sz sk rf I pc ls (.int (dz_i x) :: st) := by
  obtain ⟨p, l, e, R, s, m, args, below, meth, c, Q, D, Dt, A, nL⟩ := κ
  obtain ⟨hx, hb, hml, hown, hts, hK, hA, hlk, hns⟩ := am
  intro H locs la hz hW hsA hS hc hl
  have h2 : -2147483648 ≤ (0 : Int) ∧ (0 : Int) < 2147483648 := by omega
  have e1 := dz_lt h1 h2
  have e2 := dz_le h1 h2
  have e3 := dz_eq h1 h2
  have e4 := dz_lt h2 h1
  have e5 := dz_le h2 h1
  rw [← dz_0] at e1 e2 e3 e4 e5
  exact lv_if_ge hx hb hd ht (fun z => kt (by simp only [ge_iff_le, gt_iff_lt, ne_eq, e1, e2, e3, e4, e5] at z; omega) H locs la hz hW hsA hS hc hl) (fun z => kf (by simp only [ge_iff_le, gt_iff_lt, ne_eq, e1, e2, e3, e4, e5] at z; omega) H locs la hz hW hsA hS hc hl)
theorem dz_icmp_gt (am : dz_Am κ cc own) {x y : Int} {off : Int} {tgt : Nat} (hd : decode cc pc = .ok (.if_icmp .gt off, 3)) (ht : (pc : Int) + off = (tgt : Int)) (h1 : -2147483648 ≤ x ∧ x < 2147483648) (h2 : -2147483648 ≤ y ∧ y < 2147483648) (kt : y < x → dz_V κ cells slots sz sk rf I tgt ls st) (kf : x ≤ y → dz_V κ cells slots sz sk rf I (pc + 3) ls st) : dz_V κ cells slots sz sk rf I pc ls (.int (dz_i y) :: .int (dz_i x) :: st) := by
  obtain ⟨p, l, e, R, s, m, args, below, meth, c, Q, D, Dt, A, nL⟩ := κ
  obtain ⟨hx, hb, hml, hown, hts, hK, hA, hlk, hns⟩ := am
  intro H locs la hz hW hsA hS hc hl
  have e1 := dz_lt h1 h2
  have e2 := dz_le h1 h2
  have e3 := dz_eq h1 h2
  have e4 := dz_lt h2 h1
  have e5 := dz_le h2 h1
  exact lv_icmp_gt hx hb hd ht (fun z => kt (by simp only [ge_iff_le, gt_iff_lt, ne_eq, e1, e2, e3, e4, e5] at z; omega) H locs la hz hW hsA hS hc hl) (fun z => kf (by simp only [ge_iff_le, gt_iff_lt, ne_eq, e1, e2, e3, e4, e5] at z; omega) H locs la hz hW hsA hS hc hl)
theorem dz_if_gt (am : dz_Am κ cc own) {x : Int} {off : Int} {tgt : Nat} (hd : decode cc pc = .ok (.ifCond .gt off, 3)) (ht : (pc : Int) + off = (tgt : Int)) (h1 : -2147483648 ≤ x ∧ x < 2147483648) (kt : 0 < x → dz_V κ cells slots sz sk rf I tgt ls st) (kf : x ≤ 0 → dz_V κ cells slots sz sk rf I (pc + 3) ls st) : dz_V κ cells slots sz sk rf I pc ls (.int (dz_i x) :: st) := by
  obtain ⟨p, l, e, R, s, m, args, below, meth, c, Q, D, Dt, A, nL⟩ := κ
  obtain ⟨hx, hb, hml, hown, hts, hK, hA, hlk, hns⟩ := am
  intro H locs la hz hW hsA hS hc hl
  have h2 : -2147483648 ≤ (0 : Int) ∧ (0 : Int) < 2147483648 := by omega
  have e1 := dz_lt h1 h2
  have e2 := dz_le h1 h2
  have e3 := dz_eq h1 h2
  have e4 := dz_lt h2 h1
  have e5 := dz_le h2 h1
  rw [← dz_0] at e1 e2 e3 e4 e5
  exact lv_if_gt hx hb hd ht (fun z => kt (by simp only [ge_iff_le, gt_iff_lt, ne_eq, e1, e2, e3, e4, e5] at z; omega) H locs la hz hW hsA hS hc hl) (fun z => kf (by simp only [ge_iff_le, gt_iff_lt, ne_eq, e1, e2, e3, e4, e5] at z; omega) H locs la hz hW hsA hS hc hl)
theorem dz_icmp_le (am : dz_Am κ cc own) {x y : Int} {off : Int} {tgt : Nat} (hd : decode cc pc = .ok (.if_icmp .le off, 3)) (ht : (pc : Int) + off = (tgt : Int)) (h1 : -2147483648 ≤ x ∧ x < 2147483648) (h2 : -2147483648 ≤ y ∧ y < 2147483648) (kt : x ≤ y → dz_V κ cells slots sz sk rf I tgt ls st) (kf : y < x → dz_V κ cells slots sz sk rf I (pc + 3) ls st) : dz_V κ cells slots sz sk rf I pc ls (.int (dz_i y) :: .int (dz_i x) :: st) := by
  obtain ⟨p, l, e, R, s, m, args, below, meth, c, Q, D, Dt, A, nL⟩ := κ
  obtain ⟨hx, hb, hml, hown, hts, hK, hA, hlk, hns⟩ := am
  intro H locs la hz hW hsA hS hc hl
  have e1 := dz_lt h1 h2
  have e2 := dz_le h1 h2
  have e3 := dz_eq h1 h2
  have e4 := dz_lt h2 h1
  have e5 := dz_le h2 h1
  exact lv_icmp_le hx hb hd ht (fun z => kt (by simp only [ge_iff_le, gt_iff_lt, ne_eq, e1, e2, e3, e4, e5] at z; omega) H locs la hz hW hsA hS hc hl) (fun z => kf (by simp only [ge_iff_le, gt_iff_lt, ne_eq, e1, e2, e3, e4, e5] at z; omega) H locs la hz hW hsA hS hc hl)
theorem dz_if_le (am : dz_Am κ cc own) {x : Int} {off : Int} {tgt : Nat} (hd : decode cc pc = .ok (.ifCond .le off, 3)) (ht : (pc : Int) + off = (tgt : Int)) (h1 : -2147483648 ≤ x ∧ x < 2147483648) (kt : x ≤ 0 → dz_V κ cells slots sz sk rf I tgt ls st) (kf : 0 < x → dz_V κ cells slots sz sk rf I (pc + 3) ls st) : dz_V κ cells slots sz sk rf I pc ls (.int (dz_i x) :: st) := by
  obtain ⟨p, l, e, R, s, m, args, below, meth, c, Q, D, Dt, A, nL⟩ := κ
  obtain ⟨hx, hb, hml, hown, hts, hK, hA, hlk, hns⟩ := am
  intro H locs la hz hW hsA hS hc hl
  have h2 : -2147483648 ≤ (0 : Int) ∧ (0 : Int) < 2147483648 := by omega
  have e1 := dz_lt h1 h2
  have e2 := dz_le h1 h2
  have e3 := dz_eq h1 h2
  have e4 := dz_lt h2 h1
  have e5 := dz_le h2 h1
  rw [← dz_0] at e1 e2 e3 e4 e5
  exact lv_if_le hx hb hd ht (fun z => kt (by simp only [ge_iff_le, gt_iff_lt, ne_eq, e1, e2, e3, e4, e5] at z; omega) H locs la hz hW hsA hS hc hl) (fun z => kf (by simp only [ge_iff_le, gt_iff_lt, ne_eq, e1, e2, e3, e4, e5] at z; omega) H locs la hz hW hsA hS hc hl)
theorem dz_goto (am : dz_Am κ cc own) {off : Int} {tgt : Nat} (hd : decode cc pc = .ok (.goto off, 3)) (ht : (pc : Int) + off = (tgt : Int)) (k : dz_V κ cells slots sz sk rf I tgt ls st) : dz_V κ cells slots sz sk rf I pc ls st := by
  obtain ⟨p, l, e, R, s, m, args, below, meth, c, Q, D, Dt, A, nL⟩ := κ
  obtain ⟨hx, hb, hml, hown, hts, hK, hA, hlk, hns⟩ := am
  intro H locs la hz hW hsA hS hc hl
  exact lv_goto hx hb hd ht (k H locs la hz hW hsA hS hc hl)
theorem dz_ifnull (am : dz_Am κ cc own) {x : Nat} {off : Int} (hd : decode cc pc = .ok (.ifnull off, 3)) (k : dz_V κ cells slots sz sk rf I (pc + 3) ls st) : dz_V κ cells slots sz sk rf I pc ls (.ref x :: st) := by
  obtain ⟨p, l, e, R, s, m, args, below, meth, c, Q, D, Dt, A, nL⟩ := κ
  obtain ⟨hx, hb, hml, hown, hts, hK, hA, hlk, hns⟩ := am
  intro H locs la hz hW hsA hS hc hl
  exact lv_ifnull hx hb hd (k H locs la hz hW hsA hS hc hl)
theorem dz_ifnullN (am : dz_Am κ cc own) {off : Int} {tgt : Nat} (hd : decode cc pc = .ok (.ifnull off, 3)) (ht : (pc : Int) + off = (tgt : Int)) (k : dz_V κ cells slots sz sk rf I tgt ls st) : dz_V κ cells slots sz sk rf I pc ls (.null :: st) := by
  obtain ⟨p, l, e, R, s, m, args, below, meth, c, Q, D, Dt, A, nL⟩ := κ
  obtain ⟨hx, hb, hml, hown, hts, hK, hA, hlk, hns⟩ := am
  intro H locs la hz hW hsA hS hc hl
  exact lv_ifnullN hx hb hd ht (k H locs la hz hW hsA hS hc hl)
theorem dz_ifnonnull (am : dz_Am κ cc own) {x : Nat} {off : Int} {tgt : Nat} (hd : decode cc pc = .ok (.ifnonnull off, 3)) (ht : (pc : Int) + off = (tgt : Int)) (k : dz_V κ cells slots sz sk rf I tgt ls st) : dz_V κ cells slots sz sk rf I pc ls (.ref x :: st) := by
  obtain ⟨p, l, e, R, s, m, args, below, meth, c, Q, D, Dt, A, nL⟩ := κ
  obtain ⟨hx, hb, hml, hown, hts, hK, hA, hlk, hns⟩ := am
  intro H locs la hz hW hsA hS hc hl
  exact lv_ifnonnull hx hb hd ht (k H locs la hz hW hsA hS hc hl)
theorem dz_ifnonnullN (am : dz_Am κ cc own) {off : Int} (hd : decode cc pc = .ok (.ifnonnull off, 3)) (k : dz_V κ cells slots sz sk rf I (pc + 3) ls st) : dz_V κ cells slots sz sk rf I pc ls (.null :: st) := by
  obtain ⟨p, l, e, R, s, m, args, below, meth, c, Q, D, Dt, A, nL⟩ := κ
  obtain ⟨hx, hb, hml, hown, hts, hK, hA, hlk, hns⟩ := am
  intro H locs la hz hW hsA hS hc hl
  exact lv_ifnonnullN hx hb hd (k H locs la hz hW hsA hS hc hl)
theorem dz_lookup (am : dz_Am κ cc own) {dflt : Int} {ps : Array (Int × Int)} {len : Nat} {x off : Int} {tgt : Nat} (hd : decode cc pc = .ok (.lookupswitch dflt ps, len)) (hp : (ps.toList.zip (ps.toList.drop 1)).all (fun (a, next) => a.1 < next.1) = true) (h1 : -2147483648 ≤ x ∧ x < 2147483648) (ho : Op.lookupswitch.offset ps.toList dflt x = off) (ht : (pc : Int) + off = (tgt : Int)) (k : dz_V κ cells slots sz sk rf I tgt ls st) : dz_V κ cells slots sz sk rf I pc ls (.int (dz_i x) :: st) := by
  obtain ⟨p, l, e, R, s, m, args, below, meth, c, Q, D, Dt, A, nL⟩ := κ
  obtain ⟨hx, hb, hml, hown, hts, hK, hA, hlk, hns⟩ := am
  intro H locs la hz hW hsA hS hc hl
  exact lv_lookup hx hb hd hp (by rw [dz_toInt h1]; exact ho) ht (k H locs la hz hW hsA hS hc hl)
theorem dz_tableOut (am : dz_Am κ cc own) {dflt lo hi : Int} {offs : Array Int} {len : Nat} {x : Int} {tgt : Nat} (hd : decode cc pc = .ok (.tableswitch dflt lo hi offs, len)) (h1 : -2147483648 ≤ x ∧ x < 2147483648) (h : x < lo ∨ hi < x) (ht : (pc : Int) + dflt = (tgt : Int)) (k : dz_V κ cells slots sz sk rf I tgt ls st) : dz_V κ cells slots sz sk rf I pc ls (.int (dz_i x) :: st) := by
  obtain ⟨p, l, e, R, s, m, args, below, meth, c, Q, D, Dt, A, nL⟩ := κ
  obtain ⟨hx, hb, hml, hown, hts, hK, hA, hlk, hns⟩ := am
  intro H locs la hz hW hsA hS hc hl
  exact lv_tableOut hx hb hd (by rw [dz_toInt h1]; exact h) ht (k H locs la hz hW hsA hS hc hl)
theorem dz_tableIn (am : dz_Am κ cc own) {dflt lo hi : Int} {offs : Array Int} {len : Nat} {x off : Int} {tgt : Nat} (hd : decode cc pc = .ok (.tableswitch dflt lo hi offs, len)) (h1 : -2147483648 ≤ x ∧ x < 2147483648) (h : lo ≤ x ∧ x ≤ hi) (ho : offs[(x - lo).toNat]? = some off) (ht : (pc : Int) + off = (tgt : Int)) (k : dz_V κ cells slots sz sk rf I tgt ls st) : dz_V κ cells slots sz sk rf I pc ls (.int (dz_i x) :: st) := by
  obtain ⟨p, l, e, R, s, m, args, below, meth, c, Q, D, Dt, A, nL⟩ := κ
  obtain ⟨hx, hb, hml, hown, hts, hK, hA, hlk, hns⟩ := am
  intro H locs la hz hW hsA hS hc hl
  exact lv_tableIn hx hb hd (by rw [dz_toInt h1]; omega) (by rw [dz_toInt h1]; omega) (by rw [dz_toInt h1]; exact ho) ht (k H locs la hz hW hsA hS hc hl)
/-- a field's link: class and place of the field, whether it is a reference, by the own class's pool -/
def dz_Fg (own : String) (index ci : Nat) (kz : Int) (b : Bool) : Prop := ∃ (C : String) (T : u_T) (N k : Nat), (k : Int) = kz ∧ vwCl[ci]? = some (C, T, N) ∧ k < N ∧ (dz_fty ci)[k]? = some b ∧ (T k).1 = C ∧ (Cond.fieldLink own index C (T k).2.1 (T k).2.2.1 ∈ dz_GW ∨ ∃ host : String, Cond.fieldLinkNest own index C (T k).2.1 (T k).2.2.1 host ∈ dz_NW)
/-- a field of type ty that may be written; fin: a final one -/
def dz_Fp (ci : Nat) (kz : Int) (ty : FieldType) (fin : Bool) : Prop := ∃ (C : String) (T : u_T) (N k : Nat), (k : Int) = kz ∧ vwCl[ci]? = some (C, T, N) ∧ parseFieldDescriptor (T k).2.2.1 = some ty ∧ (T k).2.2.2 = fin
theorem dz_geti (am : dz_Am κ cc own) {q ci index : Nat} {k0 z : Int} (hq : sk q = some (.inr ci)) (hf : dz_Fg own index ci k0 false) (hd : decode cc pc = .ok (.getfield index, 3)) (hv0 : I q k0 = z) (kk : dz_V κ cells slots sz sk rf I (pc + 3) ls (.int (dz_i z) :: st)) : dz_V κ cells slots sz sk rf I pc ls (.ref q :: st) := by
  obtain ⟨p, l, e, R, s, m, args, below, meth, c, Q, D, Dt, A, nL⟩ := κ
  obtain ⟨hx, hb, hml, hown, hts, hK, hA, hlk, hns⟩ := am
  intro H locs la hz hW hsA hS hc hl
  subst hv0
  obtain ⟨C, T, N, k, rfl, c1, c2, c3, c4, c5⟩ := hf
  obtain ⟨f1, -, -, f4⟩ := dz_cf ci _ c1
  have hv : (dz_fs (dz_fty ci) 0 (rf q) (I q))[k]? = some (.int (dz_i (I q k))) := by
    rw [dz_fs_get _ _ _ _ _ _ c3]; simp
  rcases c5 with c5 | ⟨host, c5⟩
  · exact va_get hx hb hts f1 hown hK.1 (hW.one hq) 0 rfl c1 k c2 (hts _ c5) (fun _ h => by rw [c4] at h; exact h) hv hd (kk H locs la hz hW hsA hS hc hl)
  · exact va_getN hx hb hts f1 hown hK.1 (hW.one hq) 0 rfl c1 k c2 (va_Nw.use rfl (hK.2.1 _ c5)) (fun _ h => by rw [c4] at h; exact h) hv hd (kk H locs la hz hW hsA hS hc hl)
theorem dz_getr (am : dz_Am κ cc own) {q ci index a : Nat} {k0 : Int} (hq : sk q = some (.inr ci)) (hf : dz_Fg own index ci k0 true) (hr : rf q k0 = some a) (hd : decode cc pc = .ok (.getfield index, 3)) (kk : dz_V κ cells slots sz sk rf I (pc + 3) ls (.ref a :: st)) : dz_V κ cells slots sz sk rf I pc ls (.ref q :: st) := by
  obtain ⟨p, l, e, R, s, m, args, below, meth, c, Q, D, Dt, A, nL⟩ := κ
  obtain ⟨hx, hb, hml, hown, hts, hK, hA, hlk, hns⟩ := am
  intro H locs la hz hW hsA hS hc hl
  obtain ⟨C, T, N, k, rfl, c1, c2, c3, c4, c5⟩ := hf
  obtain ⟨f1, -, -, f4⟩ := dz_cf ci _ c1
  have hv : (dz_fs (dz_fty ci) 0 (rf q) (I q))[k]? = some (.ref a) := by
    rw [dz_fs_get _ _ _ _ _ _ c3]; simp; rw [hr]; rfl
  rcases c5 with c5 | ⟨host, c5⟩
  · exact va_get hx hb hts f1 hown hK.1 (hW.one hq) 0 rfl c1 k c2 (hts _ c5) (fun _ h => by rw [c4] at h; exact h) hv hd (kk H locs la hz hW hsA hS hc hl)
  · exact va_getN hx hb hts f1 hown hK.1 (hW.one hq) 0 rfl c1 k c2 (va_Nw.use rfl (hK.2.1 _ c5)) (fun _ h => by rw [c4] at h; exact h) hv hd (kk H locs la hz hW hsA hS hc hl)
theorem dz_putc {D : va_G} {Dt : Nat → ClassId} {sk : dz_Sk} {rf rf' : dz_Rf} {I I' : dz_Hp} {H H1 : Heap} {ci q k : Nat} {C : String} {T : u_T} {N : Nat} {v : Value} {cell : Cell} (h : dz_W D Dt sk rf I H) (hq : sk q = some (.inr ci)) (c1 : vwCl[ci]? = some (C, T, N)) (hk : k < N) (q2 : cell.cls = D.1 ci) (q3 : cell.vm = .none) (q4 : ∀ j, j < N → cell.slots[D.2 ci j]? = some (vp_V (dz_fs (dz_fty ci) 0 (rf q) (I q)) j)) (hap : ∀ a b, a < N → b < N → a ≠ b → D.2 ci a ≠ D.2 ci b) (hl : k < (dz_fs (dz_fty ci) 0 (rf q) (I q)).length)
    (hs : (dz_fs (dz_fty ci) 0 (rf q) (I q)).set k v = dz_fs (dz_fty ci) 0 (rf' q) (I' q)) (e1 : H1[q]? = some (cell.setSlot (D.2 ci k) v)) (e3 : ∀ x, x ≠ q → H1[x]? = H[x]?) (hr : ∀ x : Nat, x ≠ q → rf' x = rf x) (hi : ∀ x : Nat, x ≠ q → I' x = I x) : dz_W D Dt sk rf' I' H1 := by
  refine h.put q _ hq ?_ e3 hr hi
  refine ⟨_, c1, ?_⟩
  show t_OB q (D.1 ci) N (D.2 ci) H1 (vp_V (dz_fs (dz_fty ci) 0 (rf' q) (I' q)))
  rw [← hs]
  exact t_OB.to (V := updV (vp_V (dz_fs (dz_fty ci) 0 (rf q) (I q))) k v) ⟨_, e1, q2, q3, t_set q4 hap hk v⟩ (fun j _ => vp_updV_set hl v j)
theorem dz_puti (am : dz_Am κ cc own) {q ci index : Nat} {k0 v : Int} (hq : sk q = some (.inr ci)) (hf : dz_Fg own index ci k0 false) (hp : dz_Fp ci k0 .int false) (hd : decode cc pc = .ok (.putfield index, 3)) (kk : dz_V κ cells slots sz sk rf (dz_up I q k0 v) (pc + 3) ls st) : dz_V κ cells slots sz sk rf I pc ls (.int (dz_i v) :: .ref q :: st) := by
  obtain ⟨p, l, e, R, s, m, args, below, meth, c, Q, D, Dt, A, nL⟩ := κ
  obtain ⟨hx, hb, hml, hown, hts, hK, hA, hlk, hns⟩ := am
  intro H locs la hz hW hsA hS hc hl
  obtain ⟨C, T, N, k, rfl, c1, c2, c3, c4, c5⟩ := hf
  obtain ⟨C', T', N', k', hkk, p1, p2, p3⟩ := hp
  have hkk2 : k = k' := by omega
  subst hkk2
  cases c1.symm.trans p1
  obtain ⟨f1, f2, f3, f4⟩ := dz_cf ci _ c1
  have hap := va_apart (own := own) hts f1 (dz_ft ci) f3 f2 hK.1 c1
  obtain ⟨r, h1, cell, q1, q2, q3, q4⟩ := hW q _ hq
  have hr : r = (C, T, N) := Option.some.inj (h1.symm.trans c1)
  subst hr
  obtain ⟨hS1, hfc, kC, hkC, hkind⟩ := hK.1.1 ci _ c1
  obtain ⟨cf, kf, fi, f, hi, hsl⟩ := hS1 k c2
  have hlay := hts _ (f1 _ (u_in_lay c2))
  unfold u_lay at hlay
  rw [if_neg (by rw [p3]; decide)] at hlay
  have hst := (u_facts hfc hkC (u_lays hts f1 c2) hi).1
  have h6 := u_store hfc hkC hkind hlay hi p2 (v := .int (dz_i v)) rfl rfl
  have hi' : s.fieldFound? C (T k).2.1 (T k).2.2.1 = some (cf, kf, fi, f) := by rw [← c4]; exact hi
  have hll : k < (dz_fs (dz_fty ci) 0 (rf q) (I q)).length := by rw [dz_fs_len]; exact (List.getElem?_eq_some_iff.mp c3).1
  have fin : ∀ H1 : Heap, H1[q]? = some (cell.setSlot f.slot (.int (dz_i v))) → H1.size = H.size → (∀ x, x ≠ q → H1[x]? = H[x]?) → W p l e R s m args below meth c H1 (locs ++ [⟨q, f.slot⟩]) cells slots Q (F0 m (pc + 3) la st) := by
    intro H1 e1 e2 e3
    rw [hsl] at e1 ⊢
    exact kk H1 _ la (e2.trans hz) (dz_putc hW hq c1 c2 q2 q3 q4 hap hll (by have h9 := dz_fs_seti (rf q) (I q) v (dz_fty ci) 0 k c3; rw [Nat.zero_add] at h9; rw [dz_up_q]; exact h9) e1 e3 (fun _ _ => rfl) (fun x hx => dz_up_n I _ v hx)) hsA (hS.put e2 e3 (hsA _ _ hq)) hc hl
  rcases c5 with c5 | ⟨host, c5⟩
  · exact W.putK hx hb (f := f) ⟨hown, hts _ c5, ⟨_, _, _, hi'⟩, hst⟩ (by rw [q2]; exact h6) q1 q3 (by rw [hsl]; exact k2_hasslot (q4 k c2)) rfl rfl hd fin
  · exact va_WputK hx hb (f := f) hown (va_Nw.use rfl (hK.2.1 _ c5)) hi' hst (by rw [q2]; exact h6) q1 q3 (by rw [hsl]; exact k2_hasslot (q4 k c2)) rfl rfl hd fin
theorem dz_putz (am : dz_Am κ cc own) {q ci index : Nat} {k0 v : Int} (hq : sk q = some (.inr ci)) (hf : dz_Fg own index ci k0 false) (hp : dz_Fp ci k0 .boolean false) (hv : v = 0 ∨ v = 1) (hd : decode cc pc = .ok (.putfield index, 3)) (kk : dz_V κ cells slots sz sk rf (dz_up I q k0 v) (pc + 3) ls st) : dz_V κ cells slots sz sk rf I pc ls (.int (dz_i v) :: .ref q :: st) := by
  obtain ⟨p, l, e, R, s, m, args, below, meth, c, Q, D, Dt, A, nL⟩ := κ
  obtain ⟨hx, hb, hml, hown, hts, hK, hA, hlk, hns⟩ := am
  intro H locs la hz hW hsA hS hc hl
  obtain ⟨C, T, N, k, rfl, c1, c2, c3, c4, c5⟩ := hf
  obtain ⟨C', T', N', k', hkk, p1, p2, p3⟩ := hp
  have hkk2 : k = k' := by omega
  subst hkk2
  cases c1.symm.trans p1
  obtain ⟨f1, f2, f3, f4⟩ := dz_cf ci _ c1
  have hap := va_apart (own := own) hts f1 (dz_ft ci) f3 f2 hK.1 c1
  obtain ⟨r, h1, cell, q1, q2, q3, q4⟩ := hW q _ hq
  have hr : r = (C, T, N) := Option.some.inj (h1.symm.trans c1)
  subst hr
  obtain ⟨hS1, hfc, kC, hkC, hkind⟩ := hK.1.1 ci _ c1
  obtain ⟨cf, kf, fi, f, hi, hsl⟩ := hS1 k c2
  have hlay := hts _ (f1 _ (u_in_lay c2))
  unfold u_lay at hlay
  rw [if_neg (by rw [p3]; decide)] at hlay
  have hst := (u_facts hfc hkC (u_lays hts f1 c2) hi).1
  have h6 := u_store hfc hkC hkind hlay hi p2 (v := .int (dz_i v)) (dz_nbo hv) (dz_fbo hv)
  have hi' : s.fieldFound? C (T k).2.1 (T k).2.2.1 = some (cf, kf, fi, f) := by rw [← c4]; exact hi
  have hll : k < (dz_fs (dz_fty ci) 0 (rf q) (I q)).length := by rw [dz_fs_len]; exact (List.getElem?_eq_some_iff.mp c3).1
  have fin : ∀ H1 : Heap, H1[q]? = some (cell.setSlot f.slot (.int (dz_i v))) → H1.size = H.size → (∀ x, x ≠ q → H1[x]? = H[x]?) → W p l e R s m args below meth c H1 (locs ++ [⟨q, f.slot⟩]) cells slots Q (F0 m (pc + 3) la st) := by
    intro H1 e1 e2 e3
    rw [hsl] at e1 ⊢
    exact kk H1 _ la (e2.trans hz) (dz_putc hW hq c1 c2 q2 q3 q4 hap hll (by have h9 := dz_fs_seti (rf q) (I q) v (dz_fty ci) 0 k c3; rw [Nat.zero_add] at h9; rw [dz_up_q]; exact h9) e1 e3 (fun _ _ => rfl) (fun x hx => dz_up_n I _ v hx)) hsA (hS.put e2 e3 (hsA _ _ hq)) hc hl
  rcases c5 with c5 | ⟨host, c5⟩
  · exact W.putK hx hb (f := f) ⟨hown, hts _ c5, ⟨_, _, _, hi'⟩, hst⟩ (by rw [q2]; exact h6) q1 q3 (by rw [hsl]; exact k2_hasslot (q4 k c2)) rfl rfl hd fin
  · exact va_WputK hx hb (f := f) hown (va_Nw.use rfl (hK.2.1 _ c5)) hi' hst (by rw [q2]; exact h6) q1 q3 (by rw [hsl]; exact k2_hasslot (q4 k c2)) rfl rfl hd fin
theorem dz_iald (am : dz_Am κ cc own) {q n : Nat} {z w : Int} (hq : sk q = some (.inl (0, n))) (hn : n < 2147483648) (hi : 0 ≤ z ∧ z < n) (hd : decode cc pc = .ok (.iaload, 1)) (hv0 : I q z = w) (kk : dz_V κ cells slots sz sk rf I (pc + 1) ls (.int (dz_i w) :: st)) : dz_V κ cells slots sz sk rf I pc ls (.int (dz_i z) :: .ref q :: st) := by
  obtain ⟨p, l, e, R, s, m, args, below, meth, c, Q, D, Dt, A, nL⟩ := κ
  obtain ⟨hx, hb, hml, hown, hts, hK, hA, hlk, hns⟩ := am
  intro H locs la hz hW hsA hS hc hl
  subst hv0
  have e : (((dz_i z).toNatClampNeg : Nat) : Int) = z := by rw [dz_cl (by omega)]; omega
  refine va_iald hx hb hK.1 (hW.one hq) 0 0 rfl rfl (dz_in hi hn) hd ?_
  try dsimp only
  rw [e]
  exact kk H locs la hz hW hsA hS hc hl
theorem dz_cald (am : dz_Am κ cc own) {q n : Nat} {z w : Int} (hq : sk q = some (.inl (1, n))) (hn : n < 2147483648) (hi : 0 ≤ z ∧ z < n) (hd : decode cc pc = .ok (.caload, 1)) (hv0 : I q z = w) (kk : dz_V κ cells slots sz sk rf I (pc + 1) ls (.int (dz_i w) :: st)) : dz_V κ cells slots sz sk rf I pc ls (.int (dz_i z) :: .ref q :: st) := by
  obtain ⟨p, l, e, R, s, m, args, below, meth, c, Q, D, Dt, A, nL⟩ := κ
  obtain ⟨hx, hb, hml, hown, hts, hK, hA, hlk, hns⟩ := am
  intro H locs la hz hW hsA hS hc hl
  subst hv0
  have e : (((dz_i z).toNatClampNeg : Nat) : Int) = z := by rw [dz_cl (by omega)]; omega
  refine va_cald hx hb hK.1 (hW.one hq) 0 1 rfl rfl (dz_in hi hn) hd ?_
  try dsimp only
  rw [e]
  exact kk H locs la hz hW hsA hS hc hl
theorem dz_lald (am : dz_Am κ cc own) {q n : Nat} {z w : Int} (hq : sk q = some (.inl (2, n))) (hn : n < 2147483648) (hi : 0 ≤ z ∧ z < n) (hd : decode cc pc = .ok (.laload, 1)) (hv0 : I q z = w) (kk : dz_V κ cells slots sz sk rf I (pc + 1) ls (.long (dz_i w).toInt64 :: st)) : dz_V κ cells slots sz sk rf I pc ls (.int (dz_i z) :: .ref q :: st) := by
  obtain ⟨p, l, e, R, s, m, args, below, meth, c, Q, D, Dt, A, nL⟩ := κ
  obtain ⟨hx, hb, hml, hown, hts, hK, hA, hlk, hns⟩ := am
  intro H locs la hz hW hsA hS hc hl
  subst hv0
  have e : (((dz_i z).toNatClampNeg : Nat) : Int) = z := by rw [dz_cl (by omega)]; omega
  refine va_lald hx hb hK.1 (hW.one hq) 0 2 rfl rfl (dz_in hi hn) hd ?_
  try dsimp only
  rw [e]
  exact kk H locs la hz hW hsA hS hc hl
theorem dz_aald3 (am : dz_Am κ cc own) {q n a : Nat} {z : Int} (hq : sk q = some (.inl (3, n))) (hn : n < 2147483648) (hi : 0 ≤ z ∧ z < n) (hr : rf q z = some a) (hd : decode cc pc = .ok (.aaload, 1)) (kk : dz_V κ cells slots sz sk rf I (pc + 1) ls (.ref a :: st)) : dz_V κ cells slots sz sk rf I pc ls (.int (dz_i z) :: .ref q :: st) := by
  obtain ⟨p, l, e, R, s, m, args, below, meth, c, Q, D, Dt, A, nL⟩ := κ
  obtain ⟨hx, hb, hml, hown, hts, hK, hA, hlk, hns⟩ := am
  intro H locs la hz hW hsA hS hc hl
  have e : (((dz_i z).toNatClampNeg : Nat) : Int) = z := by rw [dz_cl (by omega)]; omega
  refine va_aldq hx hb hK.1 (hW.one hq) 0 3 rfl rfl (dz_in hi hn) hd ?_
  try dsimp only
  rw [e, hr]
  exact kk H locs la hz hW hsA hS hc hl
theorem dz_aald4 (am : dz_Am κ cc own) {q n a : Nat} {z : Int} (hq : sk q = some (.inl (4, n))) (hn : n < 2147483648) (hi : 0 ≤ z ∧ z < n) (hr : rf q z = some a) (hd : decode cc pc = .ok (.aaload, 1)) (kk : dz_V κ cells slots sz sk rf I (pc + 1) ls (.ref a :: st)) : dz_V κ cells slots sz sk rf I pc ls (.int (dz_i z) :: .ref q :: st) := by
  obtain ⟨p, l, e, R, s, m, args, below, meth, c, Q, D, Dt, A, nL⟩ := κ
  obtain ⟨hx, hb, hml, hown, hts, hK, hA, hlk, hns⟩ := am
  intro H locs la hz hW hsA hS hc hl
  have e : (((dz_i z).toNatClampNeg : Nat) : Int) = z := by rw [dz_cl (by omega)]; omega
  refine va_aldq hx hb hK.1 (hW.one hq) 0 4 rfl rfl (dz_in hi hn) hd ?_
  try dsimp only
  rw [e, hr]
  exact kk H locs la hz hW hsA hS hc hl
theorem dz_iast (am : dz_Am κ cc own) {q n : Nat} {z v : Int} (hq : sk q = some (.inl (0, n))) (hn : n < 2147483648) (hi : 0 ≤ z ∧ z < n)  (hd : decode cc pc = .ok (.iastore, 1)) (kk : dz_V κ cells slots sz sk rf (dz_up I q z v) (pc + 1) ls st) : dz_V κ cells slots sz sk rf I pc ls (.int (dz_i v) :: .int (dz_i z) :: .ref q :: st) := by
  obtain ⟨p, l, e, R, s, m, args, below, meth, c, Q, D, Dt, A, nL⟩ := κ
  obtain ⟨hx, hb, hml, hown, hts, hK, hA, hlk, hns⟩ := am
  intro H locs la hz hW hsA hS hc hl
  have e : (((dz_i z).toNatClampNeg : Nat) : Int) = z := by rw [dz_cl (by omega)]; omega
  have hcell : H[q]? = some (arrV (Dt 0) n (fun j => .int (dz_i (I q (j : Int))))) := hW q _ hq
  refine W.iast hx hb hcell ((hK.1.2 0 _ rfl).1 n _) (fun h => by cases h) (by rw [arrV_size]; exact dz_in hi hn) rfl rfl hd fun H1 e1 z1 oq => ?_
  refine kk H1 _ la (z1.trans hz) (hW.put q _ hq ?_ oq (fun _ _ => rfl) (fun x hx => dz_up_n I _ v hx)) hsA (hS.put z1 oq (hsA _ _ hq)) hc hl
  show H1[q]? = some (arrV (Dt 0) n (fun j => .int (dz_i (dz_up I q z v q (j : Int)))))
  rw [e1, arrV_store]
  congr 2
  funext j
  rw [dz_up_q]
  by_cases hj : (j : Int) = z
  · rw [hj, dz_u_s]
    have hj2 : j = (dz_i z).toNatClampNeg := by omega
    simp [updV, hj2]
  · rw [dz_u_n _ _ hj]
    have hj2 : ¬ j = (dz_i z).toNatClampNeg := by omega
    simp [updV, hj2]
theorem dz_cast (am : dz_Am κ cc own) {q n : Nat} {z v : Int} (hq : sk q = some (.inl (1, n))) (hn : n < 2147483648) (hi : 0 ≤ z ∧ z < n) (hv : 0 ≤ v ∧ v < 65536) (hd : decode cc pc = .ok (.castore, 1)) (kk : dz_V κ cells slots sz sk rf (dz_up I q z v) (pc + 1) ls st) : dz_V κ cells slots sz sk rf I pc ls (.int (dz_i v) :: .int (dz_i z) :: .ref q :: st) := by
  obtain ⟨p, l, e, R, s, m, args, below, meth, c, Q, D, Dt, A, nL⟩ := κ
  obtain ⟨hx, hb, hml, hown, hts, hK, hA, hlk, hns⟩ := am
  intro H locs la hz hW hsA hS hc hl
  have e : (((dz_i z).toNatClampNeg : Nat) : Int) = z := by rw [dz_cl (by omega)]; omega
  have hcell : H[q]? = some (arrV (Dt 1) n (fun j => .int (dz_i (I q (j : Int))))) := hW q _ hq
  refine W.cast hx hb hcell ((hK.1.2 1 _ rfl).1 n _) (fun h => by cases h) (by rw [arrV_size]; exact dz_in hi hn) rfl rfl hd fun H1 e1 z1 oq => ?_
  refine kk H1 _ la (z1.trans hz) (hW.put q _ hq ?_ oq (fun _ _ => rfl) (fun x hx => dz_up_n I _ v hx)) hsA (hS.put z1 oq (hsA _ _ hq)) hc hl
  show H1[q]? = some (arrV (Dt 1) n (fun j => .int (dz_i (dz_up I q z v q (j : Int)))))
  rw [e1, arrV_store]
  congr 2
  funext j
  rw [dz_up_q]
  by_cases hj : (j : Int) = z
  · rw [hj, dz_u_s]
    have hj2 : j = (dz_i z).toNatClampNeg := by omega
    simp [updV, hj2, dz_nch hv]
  · rw [dz_u_n _ _ hj]
    have hj2 : ¬ j = (dz_i z).toNatClampNeg := by omega
    simp [updV, hj2]
theorem dz_last (am : dz_Am κ cc own) {q n : Nat} {z v : Int} (hq : sk q = some (.inl (2, n))) (hn : n < 2147483648) (hi : 0 ≤ z ∧ z < n)  (hd : decode cc pc = .ok (.lastore, 1)) (kk : dz_V κ cells slots sz sk rf (dz_up I q z v) (pc + 1) ls st) : dz_V κ cells slots sz sk rf I pc ls (.long (dz_i v).toInt64 :: .int (dz_i z) :: .ref q :: st) := by
  obtain ⟨p, l, e, R, s, m, args, below, meth, c, Q, D, Dt, A, nL⟩ := κ
  obtain ⟨hx, hb, hml, hown, hts, hK, hA, hlk, hns⟩ := am
  intro H locs la hz hW hsA hS hc hl
  have e : (((dz_i z).toNatClampNeg : Nat) : Int) = z := by rw [dz_cl (by omega)]; omega
  have hcell : H[q]? = some (arrV (Dt 2) n (fun j => .long (dz_i (I q (j : Int))).toInt64)) := hW q _ hq
  refine W.last hx hb hcell ((hK.1.2 2 _ rfl).1 n _) (fun h => by cases h) (by rw [arrV_size]; exact dz_in hi hn) rfl rfl hd fun H1 e1 z1 oq => ?_
  refine kk H1 _ la (z1.trans hz) (hW.put q _ hq ?_ oq (fun _ _ => rfl) (fun x hx => dz_up_n I _ v hx)) hsA (hS.put z1 oq (hsA _ _ hq)) hc hl
  show H1[q]? = some (arrV (Dt 2) n (fun j => .long (dz_i (dz_up I q z v q (j : Int))).toInt64))
  rw [e1, arrV_store]
  congr 2
  funext j
  rw [dz_up_q]
  by_cases hj : (j : Int) = z
  · rw [hj, dz_u_s]
    have hj2 : j = (dz_i z).toNatClampNeg := by omega
    simp [updV, hj2]
  · rw [dz_u_n _ _ hj]
    have hj2 : ¬ j = (dz_i z).toNatClampNeg := by omega
    simp [updV, hj2]
theorem dz_alen (am : dz_Am κ cc own) {q n kd : Nat} (hq : sk q = some (.inl (kd, n))) (hk : kd < 5) (hd : decode cc pc = .ok (.arraylength, 1)) (kk : dz_V κ cells slots sz sk rf I (pc + 1) ls (.int (dz_i (n : Int)) :: st)) : dz_V κ cells slots sz sk rf I pc ls (.ref q :: st) := by
  obtain ⟨p, l, e, R, s, m, args, below, meth, c, Q, D, Dt, A, nL⟩ := κ
  obtain ⟨hx, hb, hml, hown, hts, hK, hA, hlk, hns⟩ := am
  intro H locs la hz hW hsA hS hc hl
  have hv : Int32.ofNat n = dz_i (n : Int) := by unfold dz_i; rw [Int32.ofInt_eq_ofNat]
  have ht : ∃ ty : FieldType, (dz_tys Dt)[kd]? = some (Dt kd, ty) := by
    rcases kd with _ | _ | _ | _ | _ | kd
    · exact ⟨_, rfl⟩
    · exact ⟨_, rfl⟩
    · exact ⟨_, rfl⟩
    · exact ⟨_, rfl⟩
    · exact ⟨_, rfl⟩
    · omega
  obtain ⟨ty, ht⟩ := ht
  exact va_alen hx hb hK.1 (hW.one hq) 0 kd rfl ht hv hd (kk H locs la hz hW hsA hS hc hl)
end dz_rows
end
section
/-! CONTRACTS over the layer: a method's start and end, returns, calls. -/
def dz_A (sk : dz_Sk) (sz : Nat) : Nat → Prop := fun q => (∃ x, sk q = some x) ∨ sz ≤ q
abbrev dz_Po : Type := Option Value → Nat → dz_Sk → dz_Rf → dz_Hp → Prop
def dz_Q (D : va_G) (Dt : Nat → ClassId) (sk : dz_Sk) (sz : Nat) (post : dz_Po) : Array Value → State → Outcome → State → Prop := fun _ st oc t =>
  (∃ (v : Option Value) (sz' : Nat) (sk' : dz_Sk) (rf' : dz_Rf) (I' : dz_Hp), oc = .returned v ∧ post v sz' sk' rf' I' ∧ t.heap.size = sz' ∧ dz_W D Dt sk' rf' I' t.heap ∧ ∀ q x, sk' q = some x → dz_A sk sz q) ∧ va_F (dz_A sk sz) st t
def dz_rm (d mc ms : Nat) : Room := { frames := d, cells := mc, slots := ms, locals := 36 * d }
/-- a contract: y, called with av at a heap of sz cells that holds (sk, rf, I), returns, and post holds of the answer and the heap behind it -/
def dz_C (l : Launch) (D : va_G) (Dt : Nat → ClassId) (y : MethodName) (cc : ByteArray) (nL : Nat) (ret : Option FieldType) (d mc ms : Nat) (av : List Value) (sz : Nat) (sk : dz_Sk) (rf : dz_Rf) (I : dz_Hp) (post : dz_Po) : Prop :=
  Met l y (.code y cc nL ret :: dz_GW) (dz_rm d mc ms) (va_Pc av (fun U => U.heap.size = sz ∧ dz_W D Dt sk rf I U.heap ∧ dz_K D Dt (dz_A sk sz) U)) (dz_Q D Dt sk sz post) mc ms (dz_A sk sz)
/-- what the end of a walk is -/
def dz_Rt (κ : dz_Kx) (mc ms : Nat) (sk : dz_Sk) (sz : Nat) (post : dz_Po) (ret : Option FieldType) : Prop := match κ with
  | (_, _, _, _, s, _, args, below, meth, _, Q, D, Dt, A, _) => Q = MQ below (dz_Q D Dt sk sz post) args s mc ms (dz_A sk sz) ∧ A = dz_A sk sz ∧ meth.sig.returnType = ret
/-- the room of a walk -/
def dz_Rm (κ : dz_Kx) (d mc ms : Nat) : Prop := match κ with
  | (_, _, _, R, _, _, _, _, _, _, _, _, _, _, _) => d ≤ R.frames ∧ 36 * d ≤ R.locals ∧ mc ≤ R.cells ∧ ms ≤ R.slots
def dz_Nm (κ : dz_Kx) (n : String) : Prop := match κ with
  | (_, _, _, _, _, _, _, _, meth, _, _, _, _, _, _) => meth.name = n
def dz_Dd (κ : dz_Kx) (l : Launch) (D : va_G) (Dt : Nat → ClassId) (nL : Nat) : Prop := match κ with
  | (_, l', _, _, _, _, _, _, _, _, _, D', Dt', _, nL') => l' = l ∧ D' = D ∧ Dt' = Dt ∧ nL' = nL
theorem dz_nonst {D : va_G} {Dt : Nat → ClassId} {sk : dz_Sk} {rf : dz_Rf} {I : dz_Hp} {H : Heap} {sz : Nat} (hz : H.size = sz) (hW : dz_W D Dt sk rf I H) : ∀ (q : Nat) (x : Cell), dz_A sk sz q → H[q]? = some x → x.vm.isStatics = false := by
  intro q x hq hx
  rcases hq with ⟨y, hy⟩ | hq
  · have h := hW q y hy
    rcases y with ⟨k, n⟩ | ci
    · have h2 : H[q]? = some (vp_cell (Dt k) (n, dz_ar k (rf q) (I q))) := h
      rw [hx] at h2
      cases h2
      unfold vp_cell
      split <;> rfl
    · obtain ⟨r, -, cell, e1, -, e3, -⟩ := h
      have e1 : H[q]? = some cell := e1
      rw [hx] at e1
      cases e1
      rw [e3]; rfl
  · have : q < H.size := (Array.getElem?_eq_some_iff.mp hx).1
    omega
theorem dz_enter {l : Launch} {D : va_G} {Dt : Nat → ClassId} {y : MethodName} {cc : ByteArray} {nL : Nat} {ret : Option FieldType} {d mc ms : Nat} {av : List Value} {sz : Nat} {sk : dz_Sk} {rf : dz_Rf} {I : dz_Hp} {post : dz_Po} (own : String) (hy : plainName y.cls = true) (ho : y.cls = own) (hlen : (lg_sl av).length ≤ nL) (hcat : ∀ q, q ∈ lv_args 0 av → q.2.category = 1)
    (h : ∀ κ : dz_Kx, dz_Am κ cc own → dz_Dd κ l D Dt nL → dz_Rt κ mc ms sk sz post ret → dz_Rm κ d mc ms → dz_Nm κ y.name → dz_V κ 0 0 sz sk rf I 0 (lv_args 0 av) []) : dz_C l D Dt y cc nL ret d mc ms av sz sk rf I post := by
  refine Met.ofW (cc := cc) (maxL := nL) (ret := ret) hy rfl ?_
  intro p e s m args below meth c s₁ B hml hv
  obtain ⟨rfl, hsz, hW, hK⟩ := hv
  have hts := atoms_spec (ws := .code y cc nL ret :: dz_GW) B.pre
  have hown : s.vm.findClass y.cls = some m.cls := findClass_of_methodNamed B.named
  rw [ho] at hown
  have hl := lv_entry av (n := nL) hlen
  rw [lg_entry_eq]
  exact h (p, l, e, (headSpec (.code y cc nL ret :: dz_GW) (dz_rm d mc ms)).room, s, m, av.toArray, below, meth, c, MQ below (dz_Q D Dt sk sz post) av.toArray s mc ms (dz_A sk sz), D, Dt, dz_A sk sz, nL)
    ⟨B.exec, B.bytes, hml, hown, fun w hw => hts w (List.mem_cons_of_mem _ hw), hK, fun q hq => Or.inr (by omega), B.notSynchronized, dz_nonst hsz hW⟩ ⟨rfl, rfl, rfl, rfl⟩ ⟨rfl, rfl, B.returns⟩ ⟨Nat.le_refl _, Nat.le_refl _, Nat.le_refl _, Nat.le_refl _⟩ (name_of_methodNamed B.named B.method).1
    s.heap [] _ hsz hW (fun q x hx => Or.inl ⟨x, hx⟩) va_S.rf hcat hl
section dz_ends
variable {κ : dz_Kx} {cc : ByteArray} {own : String} {cells slots sz : Nat} {sk : dz_Sk} {rf : dz_Rf} {I : dz_Hp} {pc : Nat} {ls : List (Nat × Value)} {st : List Value}
theorem dz_widen {k n : Nat} (h1 : cells ≤ k) (h2 : slots ≤ n) (kk : dz_V κ k n sz sk rf I pc ls st) : dz_V κ cells slots sz sk rf I pc ls st := by
  obtain ⟨p, l, e, R, s, m, args, below, meth, c, Q, D, Dt, A, nL⟩ := κ
  intro H locs la hz hW hsA hS hc hl
  exact W.widen h1 h2 (kk H locs la hz hW hsA hS hc hl)
theorem dz_vret {sk0 : dz_Sk} {sz0 : Nat} {post : dz_Po} (am : dz_Am κ cc own) (rt : dz_Rt κ cells slots sk0 sz0 post none) (hd : decode cc pc = .ok (.return_, 1)) (hp : post none sz sk rf I) : dz_V κ cells slots sz sk rf I pc ls [] := by
  obtain ⟨p, l, e, R, s, m, args, below, meth, c, Q, D, Dt, A, nL⟩ := κ
  obtain ⟨hx, hb, hml, hown, hts, hK, hA, hlk, hns⟩ := am
  obtain ⟨r1, r2, r3⟩ := rt
  subst r1 r2
  intro H locs la hz hW hsA hS hc hl
  exact W.vret hx hb r3 (fun t ht hW' => ⟨⟨none, sz, sk, rf, I, rfl, hp, by rw [ht]; exact hz, by rw [ht]; exact hW, hsA⟩, hS.F ht⟩) hS.2.2 hd hlk
theorem dz_iret {sk0 : dz_Sk} {sz0 : Nat} {post : dz_Po} {z : Int} {ty : FieldType} (am : dz_Am κ cc own) (rt : dz_Rt κ cells slots sk0 sz0 post (some ty)) (hn : narrow ty (.int (dz_i z)) = .int (dz_i z)) (hd : decode cc pc = .ok (.ireturn, 1)) (hp : post (some (.int (dz_i z))) sz sk rf I) : dz_V κ cells slots sz sk rf I pc ls [.int (dz_i z)] := by
  obtain ⟨p, l, e, R, s, m, args, below, meth, c, Q, D, Dt, A, nL⟩ := κ
  obtain ⟨hx, hb, hml, hown, hts, hK, hA, hlk, hns⟩ := am
  obtain ⟨r1, r2, r3⟩ := rt
  subst r1 r2
  intro H locs la hz hW hsA hS hc hl
  exact W.zret hx hb r3 hn (fun t ht hW' => ⟨⟨_, sz, sk, rf, I, rfl, hp, by rw [ht]; exact hz, by rw [ht]; exact hW, hsA⟩, hS.F ht⟩) hS.2.2 hd hlk
theorem dz_aret {sk0 : dz_Sk} {sz0 : Nat} {post : dz_Po} {v : Value} {nm : String} (am : dz_Am κ cc own) (rt : dz_Rt κ cells slots sk0 sz0 post (some (.object nm))) (hv : v = .null ∨ ∃ a, v = .ref a) (hd : decode cc pc = .ok (.areturn, 1)) (hp : post (some v) sz sk rf I) : dz_V κ cells slots sz sk rf I pc ls [v] := by
  obtain ⟨p, l, e, R, s, m, args, below, meth, c, Q, D, Dt, A, nL⟩ := κ
  obtain ⟨hx, hb, hml, hown, hts, hK, hA, hlk, hns⟩ := am
  obtain ⟨r1, r2, r3⟩ := rt
  subst r1 r2
  intro H locs la hz hW hsA hS hc hl
  exact W.aret hx hb r3 (Or.inl ⟨nm, rfl⟩) hv (fun t ht hW' => ⟨⟨_, sz, sk, rf, I, rfl, hp, by rw [ht]; exact hz, by rw [ht]; exact hW, hsA⟩, hS.F ht⟩) hS.2.2 hd hlk
/-- the tables' words of a call: kind 0 of an instance method, 1 of a static one, 2 of a constructor -/
def dz_Cg (own : String) (index : Nat) (y : MethodName) (cc : ByteArray) (nL : Nat) (ret : Option FieldType) (n kind : Nat) : Prop :=
  (Cond.methodLink own index y ∈ dz_GW ∨ ∃ host : String, Cond.methodLinkNest own index y host ∈ dz_NW) ∧ Cond.code y cc nL ret ∈ dz_GW ∧ Cond.initialized y.cls ∈ dz_GW ∧ nL ≤ 17 ∧
  (y.cls ≠ "java/lang/invoke/MethodHandle" ∧ y.cls ≠ "java/lang/invoke/VarHandle" ∧ (parseMethodDescriptor y.desc).map (fun d => d.parameters.length) = some n) ∧
  (match kind with
    | 0 => Cond.instanceMethod y ∈ dz_GW ∧ Cond.selects y.cls y y ∈ dz_GW
    | 1 => Cond.static y ∈ dz_GW
    | _ => Cond.instanceMethod y ∈ dz_GW ∧ y.name = "<init>" ∧ ret = none)
theorem dz_goodw (y : MethodName) (cc : ByteArray) (nL : Nat) (ret : Option FieldType) (h : Cond.code y cc nL ret ∈ dz_GW) : GoodIn dz_GW (.code y cc nL ret :: dz_GW) := by
  intro w hw
  rcases List.mem_cons.mp hw with e | hw
  · subst e; exact ⟨h, dz_good _ h⟩
  · exact ⟨hw, dz_good _ hw⟩
theorem dz_after {p : Program} {l : Launch} {e : Env} {R : Room} {s : State} {m : MethodId} {args : Array Value} {below : List Frame} {meth : Method} {c : Code} {Q : State → Prop} {D : va_G} {Dt : Nat → ClassId} {A : Nat → Prop} {nL mc ms : Nat} {H : Heap} {locs : List Loc} {la : Array Slot} {st0 rest : List Value} {a : Array Value} {post : dz_Po}
    (hr : va_Run p l e R s m args below meth c H locs cells slots mc ms (F0 m pc la st0) rest (dz_Q D Dt sk sz post a) (dz_A sk sz)) (hA : ∀ q : Nat, s.heap.size ≤ q → A q) (hz : H.size = sz) (hsA : ∀ q x, sk q = some x → A q) (hS : va_S A s.heap H locs) (hc : ∀ q, q ∈ ls → q.2.category = 1) (hl : lv_has la nL ls)
    (kk : ∀ v sz' sk' rf' I', post v sz' sk' rf' I' → dz_V (p, l, e, R, s, m, args, below, meth, c, Q, D, Dt, A, nL) (cells + mc) (slots + ms) sz' sk' rf' I' (pc + 3) ls (v.toList ++ rest)) : W p l e R s m args below meth c H locs cells slots Q (F0 m pc la st0) := by
  have hsub : ∀ q, dz_A sk sz q → A q := fun q hq => by
    rcases hq with ⟨x, hx⟩ | hq
    · exact hsA q x hx
    · exact hA q (by have := hS.1; omega)
  intro T hT X
  obtain ⟨v, st₀, t, T', L, h0, X', hL, e1, e2, ⟨⟨v', sz', sk', rf', I', hv, hp, hz', hW', hA'⟩, hzz, hk⟩, stp⟩ := hr T hT X
  cases hv
  rw [h0] at hzz hk
  obtain ⟨t2, a1, b1⟩ := kk v sz' sk' rf' I' hp T'.heap (locs ++ L) la (by rw [e1]; exact hz') (by rw [e1]; exact hW') (fun q x hx => hsub q (hA' q x hx))
    ⟨Nat.le_trans hS.1 (by rw [e1]; exact hzz), fun q h1 h2 => by rw [e1, hk q (Nat.lt_of_lt_of_le h1 hS.1) (fun z => h2 (hsub q z))]; exact hS.2.1 q h1 h2, fun q hq => by
      rcases List.mem_append.mp hq with h | h
      · exact hS.2.2 q h
      · exact hsub _ (hL q h)⟩ hc hl T' rfl X'
  exact ⟨t2, stp t2 a1, b1⟩
theorem dz_pre {s : State} {D : va_G} {Dt : Nat → ClassId} {A : Nat → Prop} {H : Heap} {locs : List Loc} {As : List Value} (hA : ∀ q : Nat, s.heap.size ≤ q → A q) (hz : H.size = sz) (hsA : ∀ q x, sk q = some x → A q) (hS : va_S A s.heap H locs) (hK : dz_K D Dt A s) (hW : dz_W D Dt sk rf I H) :
    FrameBlind (va_Pc As (fun U => U.heap.size = sz ∧ dz_W D Dt sk rf I U.heap ∧ dz_K D Dt (dz_A sk sz) U)) ∧ ∀ U : State, U.heap = H → s.WarmedH U.vm → (va_Pc As (fun U => U.heap.size = sz ∧ dz_W D Dt sk rf I U.heap ∧ dz_K D Dt (dz_A sk sz) U)) As.toArray U := by
  have hsub : ∀ q, dz_A sk sz q → A q := fun q hq => by
    rcases hq with ⟨x, hx⟩ | hq
    · exact hsA q x hx
    · exact hA q (by have := hS.1; omega)
  refine ⟨fun a U g mk h => ?_, fun U hU hw => ⟨rfl, by rw [hU]; exact hz, by rw [hU]; exact hW, ?_⟩⟩
  · obtain ⟨h1, h2, h3, h4⟩ := h
    exact ⟨h1, h2, h3, dz_K_same (u := U) (U := U.calling g mk a) rfl rfl h4⟩
  · exact dz_K_moved hw (by rw [hU]; exact fun q h1 h2 => hS.2.1 q h1 h2) hsub hK
variable {l : Launch} {D : va_G} {Dt : Nat → ClassId} {y : MethodName} {bc : ByteArray} {nL nL0 d d0 m0 s0 mc ms n index : Nat} {ret : Option FieldType} {post : dz_Po} {As rest : List Value} {a : Nat}
theorem dz_callV (am : dz_Am κ cc own) (hDd : dz_Dd κ l D Dt nL0) (hR : dz_Rm κ d0 m0 s0) (hg : dz_Cg own index y bc nL ret n 0) (hC : dz_C l D Dt y bc nL ret d mc ms (.ref a :: As) sz sk rf I post) (hd0 : d + 1 ≤ d0) (hcm : cells + mc ≤ m0) (hsm : slots + ms ≤ s0) {ci : Nat} (hq : sk a = some (.inr ci)) {r : vw_C} (hci : vwCl[ci]? = some r) (hrc : r.1 = y.cls) (hn : As.length = n) {st0 : List Value} (hst0 : st0 = As.reverse ++ .ref a :: rest) (hst : (rest.map fun v => v.category).sum ≤ 8) (hd : decode cc pc = .ok (.invokevirtual index, 3))
    (kk : ∀ v sz' sk' rf' I', post v sz' sk' rf' I' → dz_V κ (cells + mc) (slots + ms) sz' sk' rf' I' (pc + 3) ls (v.toList ++ rest)) : dz_V κ cells slots sz sk rf I pc ls st0 := by
  obtain ⟨p, l', e, R, s, m, args, below, meth, c, Q, D', Dt', A, nL'⟩ := κ
  obtain ⟨hx, hb, hml, hown, hts, hK, hA, hlk, hns⟩ := am
  obtain ⟨rfl, rfl, rfl, rfl⟩ := hDd
  obtain ⟨r1, r2, r3, r4⟩ := hR
  obtain ⟨g1, g2, g3, g4, g5, g6, g7⟩ := hg
  intro H locs la hz hW hsA hS hc hl
  obtain ⟨hbl, hpc⟩ := dz_pre (As := .ref a :: As) hA hz hsA hS hK hW
  have hrcv := va_recv hK.1 (hW.one hq) hci (q0 := 0) (a := a) rfl
  rw [hrc] at hrcv
  have hroom : (dz_rm d mc ms).frames + 1 ≤ R.frames ∧ 8 + (nL + 11) + (dz_rm d mc ms).locals ≤ R.locals := by
    simp only [dz_rm]; omega
  refine dz_after (post := post) (a := (Value.ref a :: As).toArray) ?_ hA hz hsA hS hc hl kk
  rcases g1 with g1 | ⟨host, g1⟩
  · exact va_runV ⟨hx, hb, hml, hown, hts⟩ hC ⟨callB_of n hts (dz_goodw y bc nL ret g2) rfl rfl rfl (hts _ g3) (hts _ g1) g5 hroom, hts _ g6, hts _ g7⟩ ⟨hbl, hrcv, hpc⟩ rfl hn hl.1 hst0 (by show 2 * 0 + _ ≤ 8; omega) hd ⟨by omega, by omega⟩
  · exact va_runVN ⟨hx, hb, hml, hown, hts⟩ hC ⟨va_cnB n hts (dz_goodw y bc nL ret g2) rfl rfl rfl (hK.2.1 _ g1) (hts _ g3) g5 hroom, hts _ g6, hts _ g7⟩ ⟨hbl, hrcv, hpc⟩ rfl hn hl.1 hst0 (by show 2 * 0 + _ ≤ 8; omega) hd ⟨by omega, by omega⟩
theorem dz_callS (am : dz_Am κ cc own) (hDd : dz_Dd κ l D Dt nL0) (hR : dz_Rm κ d0 m0 s0) (hg : dz_Cg own index y bc nL ret n 1) (hC : dz_C l D Dt y bc nL ret d mc ms As sz sk rf I post) (hd0 : d + 1 ≤ d0) (hcm : cells + mc ≤ m0) (hsm : slots + ms ≤ s0) (hn : As.length = n) {st0 : List Value} (hst0 : st0 = As.reverse ++ rest) (hst : (rest.map fun v => v.category).sum ≤ 8) (hd : decode cc pc = .ok (.invokestatic index, 3))
    (kk : ∀ v sz' sk' rf' I', post v sz' sk' rf' I' → dz_V κ (cells + mc) (slots + ms) sz' sk' rf' I' (pc + 3) ls (v.toList ++ rest)) : dz_V κ cells slots sz sk rf I pc ls st0 := by
  obtain ⟨p, l', e, R, s, m, args, below, meth, c, Q, D', Dt', A, nL'⟩ := κ
  obtain ⟨hx, hb, hml, hown, hts, hK, hA, hlk, hns⟩ := am
  obtain ⟨rfl, rfl, rfl, rfl⟩ := hDd
  obtain ⟨r1, r2, r3, r4⟩ := hR
  obtain ⟨g1, g2, g3, g4, g5, g6⟩ := hg
  intro H locs la hz hW hsA hS hc hl
  obtain ⟨hbl, hpc⟩ := dz_pre (As := As) hA hz hsA hS hK hW
  have hroom : (dz_rm d mc ms).frames + 1 ≤ R.frames ∧ 8 + (nL + 11) + (dz_rm d mc ms).locals ≤ R.locals := by
    simp only [dz_rm]; omega
  refine dz_after (post := post) (a := As.toArray) ?_ hA hz hsA hS hc hl kk
  rcases g1 with g1 | ⟨host, g1⟩
  · exact va_runS ⟨hx, hb, hml, hown, hts⟩ hC ⟨callB_of n hts (dz_goodw y bc nL ret g2) rfl rfl rfl (hts _ g3) (hts _ g1) g5 hroom, hts _ g6⟩ ⟨hbl, hpc⟩ rfl hn hl.1 hst0 (by show 2 * 0 + _ ≤ 8; omega) hd ⟨by omega, by omega⟩
  · exact va_runSN ⟨hx, hb, hml, hown, hts⟩ hC ⟨va_cnB n hts (dz_goodw y bc nL ret g2) rfl rfl rfl (hK.2.1 _ g1) (hts _ g3) g5 hroom, hts _ g6, trivial⟩ ⟨hbl, hpc⟩ rfl hn hl.1 hst0 (by show 2 * 0 + _ ≤ 8; omega) hd ⟨by omega, by omega⟩
theorem dz_callI (am : dz_Am κ cc own) (hDd : dz_Dd κ l D Dt nL0) (hR : dz_Rm κ d0 m0 s0) (hg : dz_Cg own index y bc nL none n 2) (hC : dz_C l D Dt y bc nL none d mc ms (.ref a :: As) sz sk rf I post) (hd0 : d + 1 ≤ d0) (hcm : cells + mc ≤ m0) (hsm : slots + ms ≤ s0) (hn : As.length = n) {st0 : List Value} (hst0 : st0 = As.reverse ++ .ref a :: rest) (hst : (rest.map fun v => v.category).sum ≤ 8) (hd : decode cc pc = .ok (.invokespecial index, 3))
    (kk : ∀ v sz' sk' rf' I', post v sz' sk' rf' I' → dz_V κ (cells + mc) (slots + ms) sz' sk' rf' I' (pc + 3) ls (v.toList ++ rest)) : dz_V κ cells slots sz sk rf I pc ls st0 := by
  obtain ⟨p, l', e, R, s, m, args, below, meth, c, Q, D', Dt', A, nL'⟩ := κ
  obtain ⟨hx, hb, hml, hown, hts, hK, hA, hlk, hns⟩ := am
  obtain ⟨rfl, rfl, rfl, rfl⟩ := hDd
  obtain ⟨r1, r2, r3, r4⟩ := hR
  obtain ⟨g1, g2, g3, g4, g5, g6, g7, -⟩ := hg
  intro H locs la hz hW hsA hS hc hl
  obtain ⟨hbl, hpc⟩ := dz_pre (As := .ref a :: As) hA hz hsA hS hK hW
  have hroom : (dz_rm d mc ms).frames + 1 ≤ R.frames ∧ 8 + (nL + 11) + (dz_rm d mc ms).locals ≤ R.locals := by
    simp only [dz_rm]; omega
  refine dz_after (post := post) (a := (Value.ref a :: As).toArray) ?_ hA hz hsA hS hc hl kk
  rcases g1 with g1 | ⟨host, g1⟩
  · exact va_runI ⟨hx, hb, hml, hown, hts⟩ hC ⟨callB_of n hts (dz_goodw y bc nL none g2) rfl rfl rfl (hts _ g3) (hts _ g1) g5 hroom, g7, hts _ g6⟩ ⟨hbl, hpc⟩ rfl hn hl.1 hst0 (by show 2 * 0 + _ ≤ 8; omega) hd ⟨by omega, by omega⟩
  · exact va_runIN ⟨hx, hb, hml, hown, hts⟩ hC ⟨va_cnB n hts (dz_goodw y bc nL none g2) rfl rfl rfl (hK.2.1 _ g1) (hts _ g3) g5 hroom, g7, hts _ g6⟩ ⟨hbl, hpc⟩ rfl hn hl.1 hst0 (by show 2 * 0 + _ ≤ 8; omega) hd ⟨by omega, by omega⟩
end dz_ends
end
section
theorem fl_Typed_9 : dz_Fg R_Typed 9 0 0 true := ⟨R_Typed, T_Typed, 2, 0, rfl, rfl, by decide, rfl, rfl, Or.inl (dz_g1 37 rfl rfl)⟩
theorem fl_Typed_15 : dz_Fg R_Typed 15 0 1 false := ⟨R_Typed, T_Typed, 2, 1, rfl, rfl, by decide, rfl, rfl, Or.inl (dz_g1 38 rfl rfl)⟩
theorem fl_Translator_19 : dz_Fg R_Translator 19 0 1 false := ⟨R_Typed, T_Typed, 2, 1, rfl, rfl, by decide, rfl, rfl, Or.inr ⟨"DotBook", (dz_n1 39 rfl rfl)⟩⟩
theorem fl_RuleList_25 : dz_Fg R_RuleList 25 0 1 false := ⟨R_Typed, T_Typed, 2, 1, rfl, rfl, by decide, rfl, rfl, Or.inr ⟨"DotBook", (dz_n1 40 rfl rfl)⟩⟩
theorem fl_DotBook_62 : dz_Fg R_DotBook 62 0 1 false := ⟨R_Typed, T_Typed, 2, 1, rfl, rfl, by decide, rfl, rfl, Or.inr ⟨"DotBook", (dz_n1 41 rfl rfl)⟩⟩
theorem fl_Rule_33 : dz_Fg R_Rule 33 2 0 false := ⟨R_Rule, T_Rule, 5, 0, rfl, rfl, by decide, rfl, rfl, Or.inl (dz_g1 61 rfl rfl)⟩
theorem fl_Translator_115 : dz_Fg R_Translator 115 2 0 false := ⟨R_Rule, T_Rule, 5, 0, rfl, rfl, by decide, rfl, rfl, Or.inr ⟨"DotBook", (dz_n1 62 rfl rfl)⟩⟩
theorem fl_Reader_112 : dz_Fg R_Reader 112 2 0 false := ⟨R_Rule, T_Rule, 5, 0, rfl, rfl, by decide, rfl, rfl, Or.inr ⟨"DotBook", (dz_n1 63 rfl rfl)⟩⟩
theorem fl_Rule_9 : dz_Fg R_Rule 9 2 1 true := ⟨R_Rule, T_Rule, 5, 1, rfl, rfl, by decide, rfl, rfl, Or.inl (dz_g1 64 rfl rfl)⟩
theorem fl_Reader_88 : dz_Fg R_Reader 88 2 1 true := ⟨R_Rule, T_Rule, 5, 1, rfl, rfl, by decide, rfl, rfl, Or.inr ⟨"DotBook", (dz_n1 65 rfl rfl)⟩⟩
theorem fl_Rule_41 : dz_Fg R_Rule 41 2 2 false := ⟨R_Rule, T_Rule, 5, 2, rfl, rfl, by decide, rfl, rfl, Or.inl (dz_g1 66 rfl rfl)⟩
theorem fl_Reader_83 : dz_Fg R_Reader 83 2 2 false := ⟨R_Rule, T_Rule, 5, 2, rfl, rfl, by decide, rfl, rfl, Or.inr ⟨"DotBook", (dz_n1 67 rfl rfl)⟩⟩
theorem fl_Translator_93 : dz_Fg R_Translator 93 2 2 false := ⟨R_Rule, T_Rule, 5, 2, rfl, rfl, by decide, rfl, rfl, Or.inr ⟨"DotBook", (dz_n1 68 rfl rfl)⟩⟩
theorem fl_Rule_15 : dz_Fg R_Rule 15 2 3 true := ⟨R_Rule, T_Rule, 5, 3, rfl, rfl, by decide, rfl, rfl, Or.inl (dz_g1 69 rfl rfl)⟩
theorem fl_Translator_89 : dz_Fg R_Translator 89 2 3 true := ⟨R_Rule, T_Rule, 5, 3, rfl, rfl, by decide, rfl, rfl, Or.inr ⟨"DotBook", (dz_n1 70 rfl rfl)⟩⟩
theorem fl_Rule_54 : dz_Fg R_Rule 54 2 4 false := ⟨R_Rule, T_Rule, 5, 4, rfl, rfl, by decide, rfl, rfl, Or.inl (dz_g1 71 rfl rfl)⟩
theorem fl_Reader_91 : dz_Fg R_Reader 91 2 4 false := ⟨R_Rule, T_Rule, 5, 4, rfl, rfl, by decide, rfl, rfl, Or.inr ⟨"DotBook", (dz_n1 72 rfl rfl)⟩⟩
theorem fl_Translator_84 : dz_Fg R_Translator 84 2 4 false := ⟨R_Rule, T_Rule, 5, 4, rfl, rfl, by decide, rfl, rfl, Or.inr ⟨"DotBook", (dz_n1 73 rfl rfl)⟩⟩
theorem fl_RuleList_11 : dz_Fg R_RuleList 11 1 0 true := ⟨R_RuleList, T_RuleList, 3, 0, rfl, rfl, by decide, rfl, rfl, Or.inl (dz_g1 86 rfl rfl)⟩
theorem fl_Translator_99 : dz_Fg R_Translator 99 1 0 true := ⟨R_RuleList, T_RuleList, 3, 0, rfl, rfl, by decide, rfl, rfl, Or.inr ⟨"DotBook", (dz_n1 87 rfl rfl)⟩⟩
theorem fl_Reader_97 : dz_Fg R_Reader 97 1 0 true := ⟨R_RuleList, T_RuleList, 3, 0, rfl, rfl, by decide, rfl, rfl, Or.inr ⟨"DotBook", (dz_n1 88 rfl rfl)⟩⟩
theorem fl_RuleList_22 : dz_Fg R_RuleList 22 1 1 false := ⟨R_RuleList, T_RuleList, 3, 1, rfl, rfl, by decide, rfl, rfl, Or.inl (dz_g1 89 rfl rfl)⟩
theorem fl_DotBook_77 : dz_Fg R_DotBook 77 1 1 false := ⟨R_RuleList, T_RuleList, 3, 1, rfl, rfl, by decide, rfl, rfl, Or.inr ⟨"DotBook", (dz_n1 90 rfl rfl)⟩⟩
theorem fl_Translator_96 : dz_Fg R_Translator 96 1 1 false := ⟨R_RuleList, T_RuleList, 3, 1, rfl, rfl, by decide, rfl, rfl, Or.inr ⟨"DotBook", (dz_n1 91 rfl rfl)⟩⟩
theorem fl_Reader_94 : dz_Fg R_Reader 94 1 1 false := ⟨R_RuleList, T_RuleList, 3, 1, rfl, rfl, by decide, rfl, rfl, Or.inr ⟨"DotBook", (dz_n1 92 rfl rfl)⟩⟩
theorem fl_RuleList_17 : dz_Fg R_RuleList 17 1 2 false := ⟨R_RuleList, T_RuleList, 3, 2, rfl, rfl, by decide, rfl, rfl, Or.inl (dz_g1 93 rfl rfl)⟩
theorem fl_DotBook_78 : dz_Fg R_DotBook 78 1 2 false := ⟨R_RuleList, T_RuleList, 3, 2, rfl, rfl, by decide, rfl, rfl, Or.inr ⟨"DotBook", (dz_n1 94 rfl rfl)⟩⟩
theorem fl_Translator_9 : dz_Fg R_Translator 9 3 0 true := ⟨R_Translator, T_Translator, 5, 0, rfl, rfl, by decide, rfl, rfl, Or.inl (dz_g1 108 rfl rfl)⟩
theorem fl_Translator_15 : dz_Fg R_Translator 15 3 1 true := ⟨R_Translator, T_Translator, 5, 1, rfl, rfl, by decide, rfl, rfl, Or.inl (dz_g1 109 rfl rfl)⟩
theorem fl_Translator_66 : dz_Fg R_Translator 66 3 2 false := ⟨R_Translator, T_Translator, 5, 2, rfl, rfl, by decide, rfl, rfl, Or.inl (dz_g1 110 rfl rfl)⟩
theorem fl_Translator_69 : dz_Fg R_Translator 69 3 3 false := ⟨R_Translator, T_Translator, 5, 3, rfl, rfl, by decide, rfl, rfl, Or.inl (dz_g1 111 rfl rfl)⟩
theorem fl_Translator_72 : dz_Fg R_Translator 72 3 4 false := ⟨R_Translator, T_Translator, 5, 4, rfl, rfl, by decide, rfl, rfl, Or.inl (dz_g1 112 rfl rfl)⟩
theorem fl_Reader_15 : dz_Fg R_Reader 15 4 0 true := ⟨R_Reader, T_Reader, 8, 0, rfl, rfl, by decide, rfl, rfl, Or.inl (dz_g1 130 rfl rfl)⟩
theorem fl_Reader_9 : dz_Fg R_Reader 9 4 1 true := ⟨R_Reader, T_Reader, 8, 1, rfl, rfl, by decide, rfl, rfl, Or.inl (dz_g1 131 rfl rfl)⟩
theorem fl_DotBook_115 : dz_Fg R_DotBook 115 4 1 true := ⟨R_Reader, T_Reader, 8, 1, rfl, rfl, by decide, rfl, rfl, Or.inr ⟨"DotBook", (dz_n1 132 rfl rfl)⟩⟩
theorem fl_Reader_19 : dz_Fg R_Reader 19 4 2 false := ⟨R_Reader, T_Reader, 8, 2, rfl, rfl, by decide, rfl, rfl, Or.inl (dz_g1 133 rfl rfl)⟩
theorem fl_DotBook_114 : dz_Fg R_DotBook 114 4 2 false := ⟨R_Reader, T_Reader, 8, 2, rfl, rfl, by decide, rfl, rfl, Or.inr ⟨"DotBook", (dz_n1 134 rfl rfl)⟩⟩
theorem fl_Reader_42 : dz_Fg R_Reader 42 4 3 false := ⟨R_Reader, T_Reader, 8, 3, rfl, rfl, by decide, rfl, rfl, Or.inl (dz_g1 135 rfl rfl)⟩
theorem fl_Reader_48 : dz_Fg R_Reader 48 4 4 false := ⟨R_Reader, T_Reader, 8, 4, rfl, rfl, by decide, rfl, rfl, Or.inl (dz_g1 136 rfl rfl)⟩
theorem fl_Reader_51 : dz_Fg R_Reader 51 4 5 false := ⟨R_Reader, T_Reader, 8, 5, rfl, rfl, by decide, rfl, rfl, Or.inl (dz_g1 137 rfl rfl)⟩
theorem fl_Reader_55 : dz_Fg R_Reader 55 4 6 false := ⟨R_Reader, T_Reader, 8, 6, rfl, rfl, by decide, rfl, rfl, Or.inl (dz_g1 138 rfl rfl)⟩
theorem fl_Reader_58 : dz_Fg R_Reader 58 4 7 false := ⟨R_Reader, T_Reader, 8, 7, rfl, rfl, by decide, rfl, rfl, Or.inl (dz_g1 139 rfl rfl)⟩
theorem fl_Block_21 : dz_Fg R_Block 21 6 0 false := ⟨R_Block, T_Block, 9, 0, rfl, rfl, by decide, rfl, rfl, Or.inl (dz_g1 176 rfl rfl)⟩
theorem fl_Book_44 : dz_Fg R_Book 44 6 0 false := ⟨R_Block, T_Block, 9, 0, rfl, rfl, by decide, rfl, rfl, Or.inr ⟨"DotBook", (dz_n1 177 rfl rfl)⟩⟩
theorem fl_DotBook_147 : dz_Fg R_DotBook 147 6 0 false := ⟨R_Block, T_Block, 9, 0, rfl, rfl, by decide, rfl, rfl, Or.inr ⟨"DotBook", (dz_n1 178 rfl rfl)⟩⟩
theorem fl_Block_9 : dz_Fg R_Block 9 6 1 true := ⟨R_Block, T_Block, 9, 1, rfl, rfl, by decide, rfl, rfl, Or.inl (dz_g1 179 rfl rfl)⟩
theorem fl_DotBook_107 : dz_Fg R_DotBook 107 6 1 true := ⟨R_Block, T_Block, 9, 1, rfl, rfl, by decide, rfl, rfl, Or.inr ⟨"DotBook", (dz_n1 180 rfl rfl)⟩⟩
theorem fl_Block_25 : dz_Fg R_Block 25 6 2 false := ⟨R_Block, T_Block, 9, 2, rfl, rfl, by decide, rfl, rfl, Or.inl (dz_g1 181 rfl rfl)⟩
theorem fl_Reader_23 : dz_Fg R_Reader 23 6 2 false := ⟨R_Block, T_Block, 9, 2, rfl, rfl, by decide, rfl, rfl, Or.inr ⟨"DotBook", (dz_n1 182 rfl rfl)⟩⟩
theorem fl_DotBook_106 : dz_Fg R_DotBook 106 6 2 false := ⟨R_Block, T_Block, 9, 2, rfl, rfl, by decide, rfl, rfl, Or.inr ⟨"DotBook", (dz_n1 183 rfl rfl)⟩⟩
theorem fl_Block_15 : dz_Fg R_Block 15 6 3 true := ⟨R_Block, T_Block, 9, 3, rfl, rfl, by decide, rfl, rfl, Or.inl (dz_g1 184 rfl rfl)⟩
theorem fl_Block_32 : dz_Fg R_Block 32 6 4 false := ⟨R_Block, T_Block, 9, 4, rfl, rfl, by decide, rfl, rfl, Or.inl (dz_g1 185 rfl rfl)⟩
theorem fl_Block_18 : dz_Fg R_Block 18 6 5 true := ⟨R_Block, T_Block, 9, 5, rfl, rfl, by decide, rfl, rfl, Or.inl (dz_g1 186 rfl rfl)⟩
theorem fl_Book_50 : dz_Fg R_Book 50 6 6 false := ⟨R_Block, T_Block, 9, 6, rfl, rfl, by decide, rfl, rfl, Or.inr ⟨"DotBook", (dz_n1 187 rfl rfl)⟩⟩
theorem fl_Block_35 : dz_Fg R_Block 35 6 6 false := ⟨R_Block, T_Block, 9, 6, rfl, rfl, by decide, rfl, rfl, Or.inl (dz_g1 188 rfl rfl)⟩
theorem fl_DotBook_138 : dz_Fg R_DotBook 138 6 6 false := ⟨R_Block, T_Block, 9, 6, rfl, rfl, by decide, rfl, rfl, Or.inr ⟨"DotBook", (dz_n1 189 rfl rfl)⟩⟩
theorem fl_Book_56 : dz_Fg R_Book 56 6 7 false := ⟨R_Block, T_Block, 9, 7, rfl, rfl, by decide, rfl, rfl, Or.inr ⟨"DotBook", (dz_n1 190 rfl rfl)⟩⟩
theorem fl_DotBook_141 : dz_Fg R_DotBook 141 6 7 false := ⟨R_Block, T_Block, 9, 7, rfl, rfl, by decide, rfl, rfl, Or.inr ⟨"DotBook", (dz_n1 191 rfl rfl)⟩⟩
theorem fl_Book_57 : dz_Fg R_Book 57 6 8 false := ⟨R_Block, T_Block, 9, 8, rfl, rfl, by decide, rfl, rfl, Or.inr ⟨"DotBook", (dz_n1 192 rfl rfl)⟩⟩
theorem fl_DotBook_144 : dz_Fg R_DotBook 144 6 8 false := ⟨R_Block, T_Block, 9, 8, rfl, rfl, by decide, rfl, rfl, Or.inr ⟨"DotBook", (dz_n1 193 rfl rfl)⟩⟩
theorem fl_Book_24 : dz_Fg R_Book 24 5 0 false := ⟨R_Book, T_Book, 8, 0, rfl, rfl, by decide, rfl, rfl, Or.inl (dz_g1 213 rfl rfl)⟩
theorem fl_DotBook_125 : dz_Fg R_DotBook 125 5 0 false := ⟨R_Book, T_Book, 8, 0, rfl, rfl, by decide, rfl, rfl, Or.inr ⟨"DotBook", (dz_n1 214 rfl rfl)⟩⟩
theorem fl_Book_27 : dz_Fg R_Book 27 5 1 false := ⟨R_Book, T_Book, 8, 1, rfl, rfl, by decide, rfl, rfl, Or.inl (dz_g1 215 rfl rfl)⟩
theorem fl_DotBook_122 : dz_Fg R_DotBook 122 5 1 false := ⟨R_Book, T_Book, 8, 1, rfl, rfl, by decide, rfl, rfl, Or.inr ⟨"DotBook", (dz_n1 216 rfl rfl)⟩⟩
theorem fl_Book_30 : dz_Fg R_Book 30 5 2 false := ⟨R_Book, T_Book, 8, 2, rfl, rfl, by decide, rfl, rfl, Or.inl (dz_g1 217 rfl rfl)⟩
theorem fl_DotBook_128 : dz_Fg R_DotBook 128 5 2 false := ⟨R_Book, T_Book, 8, 2, rfl, rfl, by decide, rfl, rfl, Or.inr ⟨"DotBook", (dz_n1 218 rfl rfl)⟩⟩
theorem fl_Book_11 : dz_Fg R_Book 11 5 3 true := ⟨R_Book, T_Book, 8, 3, rfl, rfl, by decide, rfl, rfl, Or.inl (dz_g1 219 rfl rfl)⟩
theorem fl_DotBook_86 : dz_Fg R_DotBook 86 5 3 true := ⟨R_Book, T_Book, 8, 3, rfl, rfl, by decide, rfl, rfl, Or.inr ⟨"DotBook", (dz_n1 220 rfl rfl)⟩⟩
theorem fl_Book_34 : dz_Fg R_Book 34 5 4 false := ⟨R_Book, T_Book, 8, 4, rfl, rfl, by decide, rfl, rfl, Or.inl (dz_g1 221 rfl rfl)⟩
theorem fl_DotBook_85 : dz_Fg R_DotBook 85 5 4 false := ⟨R_Book, T_Book, 8, 4, rfl, rfl, by decide, rfl, rfl, Or.inr ⟨"DotBook", (dz_n1 222 rfl rfl)⟩⟩
theorem fl_Book_17 : dz_Fg R_Book 17 5 5 false := ⟨R_Book, T_Book, 8, 5, rfl, rfl, by decide, rfl, rfl, Or.inl (dz_g1 223 rfl rfl)⟩
theorem fl_Book_37 : dz_Fg R_Book 37 5 6 false := ⟨R_Book, T_Book, 8, 6, rfl, rfl, by decide, rfl, rfl, Or.inl (dz_g1 224 rfl rfl)⟩
theorem fl_Book_21 : dz_Fg R_Book 21 5 7 false := ⟨R_Book, T_Book, 8, 7, rfl, rfl, by decide, rfl, rfl, Or.inl (dz_g1 225 rfl rfl)⟩
theorem fl_DotBook_119 : dz_Fg R_DotBook 119 5 7 false := ⟨R_Book, T_Book, 8, 7, rfl, rfl, by decide, rfl, rfl, Or.inr ⟨"DotBook", (dz_n1 226 rfl rfl)⟩⟩
theorem fl_DotBook_12 : dz_Fg R_DotBook 12 7 0 true := ⟨R_DotBook, T_DotBook, 5, 0, rfl, rfl, by decide, rfl, rfl, Or.inl (dz_g2 4 rfl rfl)⟩
theorem fl_DotBook_19 : dz_Fg R_DotBook 19 7 1 true := ⟨R_DotBook, T_DotBook, 5, 1, rfl, rfl, by decide, rfl, rfl, Or.inl (dz_g2 5 rfl rfl)⟩
theorem fl_DotBook_28 : dz_Fg R_DotBook 28 7 2 true := ⟨R_DotBook, T_DotBook, 5, 2, rfl, rfl, by decide, rfl, rfl, Or.inl (dz_g2 6 rfl rfl)⟩
theorem fl_DotBook_37 : dz_Fg R_DotBook 37 7 3 true := ⟨R_DotBook, T_DotBook, 5, 3, rfl, rfl, by decide, rfl, rfl, Or.inl (dz_g2 7 rfl rfl)⟩
theorem fl_DotBook_55 : dz_Fg R_DotBook 55 7 4 true := ⟨R_DotBook, T_DotBook, 5, 4, rfl, rfl, by decide, rfl, rfl, Or.inl (dz_g2 8 rfl rfl)⟩
theorem fl_Model_63 : dz_Fg R_Model 63 8 0 false := ⟨R_Model, T_Model, 29, 0, rfl, rfl, by decide, rfl, rfl, Or.inl (dz_g4 70 rfl rfl)⟩
theorem fl_Model_57 : dz_Fg R_Model 57 8 1 false := ⟨R_Model, T_Model, 29, 1, rfl, rfl, by decide, rfl, rfl, Or.inl (dz_g4 71 rfl rfl)⟩
theorem fl_Model_60 : dz_Fg R_Model 60 8 2 false := ⟨R_Model, T_Model, 29, 2, rfl, rfl, by decide, rfl, rfl, Or.inl (dz_g4 72 rfl rfl)⟩
theorem fl_Model_80 : dz_Fg R_Model 80 8 3 false := ⟨R_Model, T_Model, 29, 3, rfl, rfl, by decide, rfl, rfl, Or.inl (dz_g4 73 rfl rfl)⟩
theorem fl_Model_7 : dz_Fg R_Model 7 8 4 true := ⟨R_Model, T_Model, 29, 4, rfl, rfl, by decide, rfl, rfl, Or.inl (dz_g4 74 rfl rfl)⟩
theorem fl_Model_83 : dz_Fg R_Model 83 8 5 false := ⟨R_Model, T_Model, 29, 5, rfl, rfl, by decide, rfl, rfl, Or.inl (dz_g4 75 rfl rfl)⟩
theorem fl_Model_13 : dz_Fg R_Model 13 8 6 true := ⟨R_Model, T_Model, 29, 6, rfl, rfl, by decide, rfl, rfl, Or.inl (dz_g4 76 rfl rfl)⟩
theorem fl_Model_17 : dz_Fg R_Model 17 8 7 true := ⟨R_Model, T_Model, 29, 7, rfl, rfl, by decide, rfl, rfl, Or.inl (dz_g4 77 rfl rfl)⟩
theorem fl_Model_20 : dz_Fg R_Model 20 8 8 true := ⟨R_Model, T_Model, 29, 8, rfl, rfl, by decide, rfl, rfl, Or.inl (dz_g4 78 rfl rfl)⟩
theorem fl_Model_23 : dz_Fg R_Model 23 8 9 true := ⟨R_Model, T_Model, 29, 9, rfl, rfl, by decide, rfl, rfl, Or.inl (dz_g4 79 rfl rfl)⟩
theorem fl_Model_26 : dz_Fg R_Model 26 8 10 true := ⟨R_Model, T_Model, 29, 10, rfl, rfl, by decide, rfl, rfl, Or.inl (dz_g4 80 rfl rfl)⟩
theorem fl_Model_29 : dz_Fg R_Model 29 8 11 false := ⟨R_Model, T_Model, 29, 11, rfl, rfl, by decide, rfl, rfl, Or.inl (dz_g4 81 rfl rfl)⟩
theorem fl_Model_100 : dz_Fg R_Model 100 8 12 false := ⟨R_Model, T_Model, 29, 12, rfl, rfl, by decide, rfl, rfl, Or.inl (dz_g4 82 rfl rfl)⟩
theorem fl_Model_33 : dz_Fg R_Model 33 8 13 true := ⟨R_Model, T_Model, 29, 13, rfl, rfl, by decide, rfl, rfl, Or.inl (dz_g4 83 rfl rfl)⟩
theorem fl_Model_36 : dz_Fg R_Model 36 8 14 true := ⟨R_Model, T_Model, 29, 14, rfl, rfl, by decide, rfl, rfl, Or.inl (dz_g4 84 rfl rfl)⟩
theorem fl_Model_39 : dz_Fg R_Model 39 8 15 true := ⟨R_Model, T_Model, 29, 15, rfl, rfl, by decide, rfl, rfl, Or.inl (dz_g4 85 rfl rfl)⟩
theorem fl_Model_42 : dz_Fg R_Model 42 8 16 true := ⟨R_Model, T_Model, 29, 16, rfl, rfl, by decide, rfl, rfl, Or.inl (dz_g4 86 rfl rfl)⟩
theorem fl_Model_142 : dz_Fg R_Model 142 8 17 false := ⟨R_Model, T_Model, 29, 17, rfl, rfl, by decide, rfl, rfl, Or.inl (dz_g4 87 rfl rfl)⟩
theorem fl_Model_45 : dz_Fg R_Model 45 8 18 true := ⟨R_Model, T_Model, 29, 18, rfl, rfl, by decide, rfl, rfl, Or.inl (dz_g4 88 rfl rfl)⟩
theorem fl_Model_173 : dz_Fg R_Model 173 8 19 false := ⟨R_Model, T_Model, 29, 19, rfl, rfl, by decide, rfl, rfl, Or.inl (dz_g4 89 rfl rfl)⟩
theorem fl_Model_48 : dz_Fg R_Model 48 8 20 true := ⟨R_Model, T_Model, 29, 20, rfl, rfl, by decide, rfl, rfl, Or.inl (dz_g4 90 rfl rfl)⟩
theorem fl_Model_170 : dz_Fg R_Model 170 8 21 false := ⟨R_Model, T_Model, 29, 21, rfl, rfl, by decide, rfl, rfl, Or.inl (dz_g4 91 rfl rfl)⟩
theorem fl_Model_167 : dz_Fg R_Model 167 8 22 false := ⟨R_Model, T_Model, 29, 22, rfl, rfl, by decide, rfl, rfl, Or.inl (dz_g4 92 rfl rfl)⟩
theorem fl_Model_182 : dz_Fg R_Model 182 8 23 false := ⟨R_Model, T_Model, 29, 23, rfl, rfl, by decide, rfl, rfl, Or.inl (dz_g4 93 rfl rfl)⟩
theorem fl_Model_176 : dz_Fg R_Model 176 8 24 false := ⟨R_Model, T_Model, 29, 24, rfl, rfl, by decide, rfl, rfl, Or.inl (dz_g4 94 rfl rfl)⟩
theorem fl_Model_179 : dz_Fg R_Model 179 8 25 false := ⟨R_Model, T_Model, 29, 25, rfl, rfl, by decide, rfl, rfl, Or.inl (dz_g4 95 rfl rfl)⟩
theorem fl_Model_51 : dz_Fg R_Model 51 8 26 true := ⟨R_Model, T_Model, 29, 26, rfl, rfl, by decide, rfl, rfl, Or.inl (dz_g4 96 rfl rfl)⟩
theorem fl_Model_54 : dz_Fg R_Model 54 8 27 true := ⟨R_Model, T_Model, 29, 27, rfl, rfl, by decide, rfl, rfl, Or.inl (dz_g4 97 rfl rfl)⟩
theorem fl_Model_139 : dz_Fg R_Model 139 8 28 false := ⟨R_Model, T_Model, 29, 28, rfl, rfl, by decide, rfl, rfl, Or.inl (dz_g4 98 rfl rfl)⟩
theorem fp_Typed_1 : dz_Fp 0 1 .int false := ⟨R_Typed, T_Typed, 2, 1, rfl, rfl, by decide +kernel, rfl⟩
theorem fp_RuleList_1 : dz_Fp 1 1 .int false := ⟨R_RuleList, T_RuleList, 3, 1, rfl, rfl, by decide +kernel, rfl⟩
theorem fp_RuleList_2 : dz_Fp 1 2 .int false := ⟨R_RuleList, T_RuleList, 3, 2, rfl, rfl, by decide +kernel, rfl⟩
theorem fp_Rule_0 : dz_Fp 2 0 .int false := ⟨R_Rule, T_Rule, 5, 0, rfl, rfl, by decide +kernel, rfl⟩
theorem fp_Rule_2 : dz_Fp 2 2 .int false := ⟨R_Rule, T_Rule, 5, 2, rfl, rfl, by decide +kernel, rfl⟩
theorem fp_Rule_4 : dz_Fp 2 4 .int false := ⟨R_Rule, T_Rule, 5, 4, rfl, rfl, by decide +kernel, rfl⟩
theorem fp_Translator_2 : dz_Fp 3 2 .int false := ⟨R_Translator, T_Translator, 5, 2, rfl, rfl, by decide +kernel, rfl⟩
theorem fp_Translator_3 : dz_Fp 3 3 .int false := ⟨R_Translator, T_Translator, 5, 3, rfl, rfl, by decide +kernel, rfl⟩
theorem fp_Translator_4 : dz_Fp 3 4 .boolean false := ⟨R_Translator, T_Translator, 5, 4, rfl, rfl, by decide +kernel, rfl⟩
theorem fp_Reader_2 : dz_Fp 4 2 .int false := ⟨R_Reader, T_Reader, 8, 2, rfl, rfl, by decide +kernel, rfl⟩
theorem fp_Reader_3 : dz_Fp 4 3 .int false := ⟨R_Reader, T_Reader, 8, 3, rfl, rfl, by decide +kernel, rfl⟩
theorem fp_Reader_4 : dz_Fp 4 4 .int false := ⟨R_Reader, T_Reader, 8, 4, rfl, rfl, by decide +kernel, rfl⟩
theorem fp_Reader_5 : dz_Fp 4 5 .boolean false := ⟨R_Reader, T_Reader, 8, 5, rfl, rfl, by decide +kernel, rfl⟩
theorem fp_Reader_6 : dz_Fp 4 6 .boolean false := ⟨R_Reader, T_Reader, 8, 6, rfl, rfl, by decide +kernel, rfl⟩
theorem fp_Reader_7 : dz_Fp 4 7 .boolean false := ⟨R_Reader, T_Reader, 8, 7, rfl, rfl, by decide +kernel, rfl⟩
theorem fp_Book_0 : dz_Fp 5 0 .int true := ⟨R_Book, T_Book, 8, 0, rfl, rfl, by decide +kernel, rfl⟩
theorem fp_Book_1 : dz_Fp 5 1 .int true := ⟨R_Book, T_Book, 8, 1, rfl, rfl, by decide +kernel, rfl⟩
theorem fp_Book_2 : dz_Fp 5 2 .int true := ⟨R_Book, T_Book, 8, 2, rfl, rfl, by decide +kernel, rfl⟩
theorem fp_Book_4 : dz_Fp 5 4 .int false := ⟨R_Book, T_Book, 8, 4, rfl, rfl, by decide +kernel, rfl⟩
theorem fp_Book_5 : dz_Fp 5 5 .int false := ⟨R_Book, T_Book, 8, 5, rfl, rfl, by decide +kernel, rfl⟩
theorem fp_Book_6 : dz_Fp 5 6 .int false := ⟨R_Book, T_Book, 8, 6, rfl, rfl, by decide +kernel, rfl⟩
theorem fp_Book_7 : dz_Fp 5 7 .int false := ⟨R_Book, T_Book, 8, 7, rfl, rfl, by decide +kernel, rfl⟩
theorem fp_Block_0 : dz_Fp 6 0 .int false := ⟨R_Block, T_Block, 9, 0, rfl, rfl, by decide +kernel, rfl⟩
theorem fp_Block_2 : dz_Fp 6 2 .int false := ⟨R_Block, T_Block, 9, 2, rfl, rfl, by decide +kernel, rfl⟩
theorem fp_Block_4 : dz_Fp 6 4 .int false := ⟨R_Block, T_Block, 9, 4, rfl, rfl, by decide +kernel, rfl⟩
theorem fp_Block_6 : dz_Fp 6 6 .int false := ⟨R_Block, T_Block, 9, 6, rfl, rfl, by decide +kernel, rfl⟩
theorem fp_Block_7 : dz_Fp 6 7 .int false := ⟨R_Block, T_Block, 9, 7, rfl, rfl, by decide +kernel, rfl⟩
theorem fp_Block_8 : dz_Fp 6 8 .int false := ⟨R_Block, T_Block, 9, 8, rfl, rfl, by decide +kernel, rfl⟩
theorem fp_Model_0 : dz_Fp 8 0 .int false := ⟨R_Model, T_Model, 29, 0, rfl, rfl, by decide +kernel, rfl⟩
theorem fp_Model_1 : dz_Fp 8 1 .int false := ⟨R_Model, T_Model, 29, 1, rfl, rfl, by decide +kernel, rfl⟩
theorem fp_Model_2 : dz_Fp 8 2 .int false := ⟨R_Model, T_Model, 29, 2, rfl, rfl, by decide +kernel, rfl⟩
theorem fp_Model_3 : dz_Fp 8 3 .int false := ⟨R_Model, T_Model, 29, 3, rfl, rfl, by decide +kernel, rfl⟩
theorem fp_Model_5 : dz_Fp 8 5 .int false := ⟨R_Model, T_Model, 29, 5, rfl, rfl, by decide +kernel, rfl⟩
theorem fp_Model_11 : dz_Fp 8 11 .int false := ⟨R_Model, T_Model, 29, 11, rfl, rfl, by decide +kernel, rfl⟩
theorem fp_Model_12 : dz_Fp 8 12 .int false := ⟨R_Model, T_Model, 29, 12, rfl, rfl, by decide +kernel, rfl⟩
theorem fp_Model_17 : dz_Fp 8 17 .int false := ⟨R_Model, T_Model, 29, 17, rfl, rfl, by decide +kernel, rfl⟩
theorem fp_Model_19 : dz_Fp 8 19 .int false := ⟨R_Model, T_Model, 29, 19, rfl, rfl, by decide +kernel, rfl⟩
theorem fp_Model_21 : dz_Fp 8 21 .int false := ⟨R_Model, T_Model, 29, 21, rfl, rfl, by decide +kernel, rfl⟩
theorem fp_Model_22 : dz_Fp 8 22 .int false := ⟨R_Model, T_Model, 29, 22, rfl, rfl, by decide +kernel, rfl⟩
theorem fp_Model_23 : dz_Fp 8 23 .int false := ⟨R_Model, T_Model, 29, 23, rfl, rfl, by decide +kernel, rfl⟩
theorem fp_Model_24 : dz_Fp 8 24 .int false := ⟨R_Model, T_Model, 29, 24, rfl, rfl, by decide +kernel, rfl⟩
theorem fp_Model_25 : dz_Fp 8 25 .int false := ⟨R_Model, T_Model, 29, 25, rfl, rfl, by decide +kernel, rfl⟩
theorem fp_Model_28 : dz_Fp 8 28 .int false := ⟨R_Model, T_Model, 29, 28, rfl, rfl, by decide +kernel, rfl⟩
theorem cl_Law_49 : dz_Cg R_Law 49 y_DotBook_init b_DotBook_init 3 none 2 2 := ⟨Or.inl (dz_g1 25 rfl rfl), (dz_g1 27 rfl rfl), (dz_g1 1 rfl rfl), by decide, ⟨by decide, by decide, by decide +kernel⟩, ⟨(dz_g1 26 rfl rfl), rfl, rfl⟩⟩
theorem cl_DotBook_11 : dz_Cg R_DotBook 11 y_Typed_init b_Typed_init 1 none 0 2 := ⟨Or.inr ⟨"DotBook", (dz_n1 33 rfl rfl)⟩, (dz_g1 35 rfl rfl), (dz_g1 2 rfl rfl), by decide, ⟨by decide, by decide, by decide +kernel⟩, ⟨(dz_g1 34 rfl rfl), rfl, rfl⟩⟩
theorem cl_DotBook_18 : dz_Cg R_DotBook 18 y_RuleList_init b_RuleList_init 2 none 0 2 := ⟨Or.inl (dz_g1 50 rfl rfl), (dz_g1 52 rfl rfl), (dz_g1 3 rfl rfl), by decide, ⟨by decide, by decide, by decide +kernel⟩, ⟨(dz_g1 51 rfl rfl), rfl, rfl⟩⟩
theorem cl_RuleList_21 : dz_Cg R_RuleList 21 y_Rule_init b_Rule_init 1 none 0 2 := ⟨Or.inr ⟨"DotBook", (dz_n1 57 rfl rfl)⟩, (dz_g1 59 rfl rfl), (dz_g1 4 rfl rfl), by decide, ⟨by decide, by decide, by decide +kernel⟩, ⟨(dz_g1 58 rfl rfl), rfl, rfl⟩⟩
theorem cl_DotBook_25 : dz_Cg R_DotBook 25 y_Translator_init b_Translator_init 3 none 2 2 := ⟨Or.inl (dz_g1 104 rfl rfl), (dz_g1 106 rfl rfl), (dz_g1 5 rfl rfl), by decide, ⟨by decide, by decide, by decide +kernel⟩, ⟨(dz_g1 105 rfl rfl), rfl, rfl⟩⟩
theorem cl_DotBook_34 : dz_Cg R_DotBook 34 y_Reader_init b_Reader_init 2 none 1 2 := ⟨Or.inl (dz_g1 126 rfl rfl), (dz_g1 128 rfl rfl), (dz_g1 6 rfl rfl), by decide, ⟨by decide, by decide, by decide +kernel⟩, ⟨(dz_g1 127 rfl rfl), rfl, rfl⟩⟩
theorem cl_DotBook_52 : dz_Cg R_DotBook 52 y_Book_init b_Book_init 4 none 2 2 := ⟨Or.inl (dz_g1 165 rfl rfl), (dz_g1 167 rfl rfl), (dz_g1 7 rfl rfl), by decide, ⟨by decide, by decide, by decide +kernel⟩, ⟨(dz_g1 166 rfl rfl), rfl, rfl⟩⟩
theorem cl_Book_33 : dz_Cg R_Book 33 y_Block_init b_Block_init 1 none 0 2 := ⟨Or.inr ⟨"DotBook", (dz_n1 172 rfl rfl)⟩, (dz_g1 174 rfl rfl), (dz_g1 9 rfl rfl), by decide, ⟨by decide, by decide, by decide +kernel⟩, ⟨(dz_g1 173 rfl rfl), rfl, rfl⟩⟩
theorem cl_Law_63 : dz_Cg R_Law 63 y_DotBook_wipe b_DotBook_wipe 1 none 0 0 := ⟨Or.inl (dz_g2 20 rfl rfl), (dz_g2 23 rfl rfl), (dz_g1 1 rfl rfl), by decide, ⟨by decide, by decide, by decide +kernel⟩, ⟨(dz_g2 21 rfl rfl), (dz_g2 22 rfl rfl)⟩⟩
theorem cl_Law_71 : dz_Cg R_Law 71 y_DotBook_wrong b_DotBook_wrong 1 (some .int) 0 0 := ⟨Or.inl (dz_g2 24 rfl rfl), (dz_g2 27 rfl rfl), (dz_g1 1 rfl rfl), by decide, ⟨by decide, by decide, by decide +kernel⟩, ⟨(dz_g2 25 rfl rfl), (dz_g2 26 rfl rfl)⟩⟩
theorem cl_Law_89 : dz_Cg R_Law 89 y_DotBook_heard b_DotBook_heard 2 (some .char) 1 0 := ⟨Or.inl (dz_g2 28 rfl rfl), (dz_g2 31 rfl rfl), (dz_g1 1 rfl rfl), by decide, ⟨by decide, by decide, by decide +kernel⟩, ⟨(dz_g2 29 rfl rfl), (dz_g2 30 rfl rfl)⟩⟩
theorem cl_Law_94 : dz_Cg R_Law 94 y_DotBook_pages b_DotBook_pages 1 (some .int) 0 0 := ⟨Or.inl (dz_g2 32 rfl rfl), (dz_g2 35 rfl rfl), (dz_g1 1 rfl rfl), by decide, ⟨by decide, by decide, by decide +kernel⟩, ⟨(dz_g2 33 rfl rfl), (dz_g2 34 rfl rfl)⟩⟩
theorem cl_Law_105 : dz_Cg R_Law 105 y_DotBook_heading b_DotBook_heading 4 (some .int) 1 0 := ⟨Or.inl (dz_g2 36 rfl rfl), (dz_g2 39 rfl rfl), (dz_g1 1 rfl rfl), by decide, ⟨by decide, by decide, by decide +kernel⟩, ⟨(dz_g2 37 rfl rfl), (dz_g2 38 rfl rfl)⟩⟩
theorem cl_Law_109 : dz_Cg R_Law 109 y_DotBook_clear b_DotBook_clear 1 none 0 0 := ⟨Or.inl (dz_g2 40 rfl rfl), (dz_g2 43 rfl rfl), (dz_g1 1 rfl rfl), by decide, ⟨by decide, by decide, by decide +kernel⟩, ⟨(dz_g2 41 rfl rfl), (dz_g2 42 rfl rfl)⟩⟩
theorem cl_DotBook_150 : dz_Cg R_DotBook 150 y_Book_empty b_Book_empty 1 none 0 0 := ⟨Or.inl (dz_g2 44 rfl rfl), (dz_g2 47 rfl rfl), (dz_g1 7 rfl rfl), by decide, ⟨by decide, by decide, by decide +kernel⟩, ⟨(dz_g2 45 rfl rfl), (dz_g2 46 rfl rfl)⟩⟩
theorem cl_Law_44 : dz_Cg R_Law 44 y_Law_cell_0 b_Law_cell_0 2 (some .int) 2 1 := ⟨Or.inl (dz_g2 48 rfl rfl), (dz_g2 50 rfl rfl), (dz_g1 0 rfl rfl), by decide, ⟨by decide, by decide, by decide +kernel⟩, (dz_g2 49 rfl rfl)⟩
theorem cl_Law_7 : dz_Cg R_Law 7 y_DotBook_type b_DotBook_type 2 (some .int) 1 0 := ⟨Or.inl (dz_g2 56 rfl rfl), (dz_g2 59 rfl rfl), (dz_g1 1 rfl rfl), by decide, ⟨by decide, by decide, by decide +kernel⟩, ⟨(dz_g2 57 rfl rfl), (dz_g2 58 rfl rfl)⟩⟩
theorem cl_DotBook_69 : dz_Cg R_DotBook 69 y_Typed_put b_Typed_put 2 none 1 0 := ⟨Or.inl (dz_g2 138 rfl rfl), (dz_g2 141 rfl rfl), (dz_g1 2 rfl rfl), by decide, ⟨by decide, by decide, by decide +kernel⟩, ⟨(dz_g2 139 rfl rfl), (dz_g2 140 rfl rfl)⟩⟩
theorem cl_Law_17 : dz_Cg R_Law 17 y_DotBook_rules b_DotBook_rules 2 (some .int) 1 0 := ⟨Or.inl (dz_g2 145 rfl rfl), (dz_g2 148 rfl rfl), (dz_g1 1 rfl rfl), by decide, ⟨by decide, by decide, by decide +kernel⟩, ⟨(dz_g2 146 rfl rfl), (dz_g2 147 rfl rfl)⟩⟩
theorem cl_DotBook_73 : dz_Cg R_DotBook 73 y_RuleList_take b_RuleList_take 7 (some .boolean) 2 0 := ⟨Or.inl (dz_g2 149 rfl rfl), (dz_g2 152 rfl rfl), (dz_g1 3 rfl rfl), by decide, ⟨by decide, by decide, by decide +kernel⟩, ⟨(dz_g2 150 rfl rfl), (dz_g2 151 rfl rfl)⟩⟩
theorem cl_RuleList_28 : dz_Cg R_RuleList 28 y_Typed_characterAt b_Typed_characterAt 2 (some .char) 1 0 := ⟨Or.inl (dz_g2 153 rfl rfl), (dz_g2 156 rfl rfl), (dz_g1 2 rfl rfl), by decide, ⟨by decide, by decide, by decide +kernel⟩, ⟨(dz_g2 154 rfl rfl), (dz_g2 155 rfl rfl)⟩⟩
theorem cl_RuleList_32 : dz_Cg R_RuleList 32 y_RuleList_takeOne b_RuleList_takeOne 5 (some .boolean) 3 0 := ⟨Or.inl (dz_g2 157 rfl rfl), (dz_g2 160 rfl rfl), (dz_g1 3 rfl rfl), by decide, ⟨by decide, by decide, by decide +kernel⟩, ⟨(dz_g2 159 rfl rfl), (dz_gs 1 3 rfl rfl)⟩⟩
theorem cl_RuleList_36 : dz_Cg R_RuleList 36 y_Rule_readFrom b_Rule_readFrom 5 (some .boolean) 3 0 := ⟨Or.inl (dz_g2 161 rfl rfl), (dz_g2 164 rfl rfl), (dz_g1 4 rfl rfl), by decide, ⟨by decide, by decide, by decide +kernel⟩, ⟨(dz_g2 162 rfl rfl), (dz_g2 163 rfl rfl)⟩⟩
theorem cl_Rule_21 : dz_Cg R_Rule 21 y_Typed_characterAt b_Typed_characterAt 2 (some .char) 1 0 := ⟨Or.inl (dz_g2 166 rfl rfl), (dz_g2 156 rfl rfl), (dz_g1 2 rfl rfl), by decide, ⟨by decide, by decide, by decide +kernel⟩, ⟨(dz_g2 154 rfl rfl), (dz_g2 155 rfl rfl)⟩⟩
theorem cl_Rule_37 : dz_Cg R_Rule 37 y_Rule_readLetters b_Rule_readLetters 4 none 2 0 := ⟨Or.inl (dz_g3 9 rfl rfl), (dz_g3 12 rfl rfl), (dz_g1 4 rfl rfl), by decide, ⟨by decide, by decide, by decide +kernel⟩, ⟨(dz_g3 11 rfl rfl), (dz_gs 2 5 rfl rfl)⟩⟩
theorem cl_Rule_48 : dz_Cg R_Rule 48 y_Code_isSmall b_Code_isSmall 1 (some .boolean) 1 1 := ⟨Or.inl (dz_g3 13 rfl rfl), (dz_g3 15 rfl rfl), (dz_g1 21 rfl rfl), by decide, ⟨by decide, by decide, by decide +kernel⟩, (dz_g3 14 rfl rfl)⟩
theorem cl_Rule_44 : dz_Cg R_Rule 44 y_Rule_readCells b_Rule_readCells 8 (some .boolean) 3 0 := ⟨Or.inl (dz_g3 16 rfl rfl), (dz_g3 19 rfl rfl), (dz_g1 4 rfl rfl), by decide, ⟨by decide, by decide, by decide +kernel⟩, ⟨(dz_g3 18 rfl rfl), (dz_gs 3 5 rfl rfl)⟩⟩
theorem cl_Rule_57 : dz_Cg R_Rule 57 y_Rule_putCell b_Rule_putCell 2 (some .boolean) 1 0 := ⟨Or.inl (dz_g3 20 rfl rfl), (dz_g3 23 rfl rfl), (dz_g1 4 rfl rfl), by decide, ⟨by decide, by decide, by decide +kernel⟩, ⟨(dz_g3 22 rfl rfl), (dz_gs 4 5 rfl rfl)⟩⟩
theorem cl_RuleList_39 : dz_Cg R_RuleList 39 y_RuleList_hasLike b_RuleList_hasLike 3 (some .boolean) 1 0 := ⟨Or.inl (dz_g3 24 rfl rfl), (dz_g3 27 rfl rfl), (dz_g1 3 rfl rfl), by decide, ⟨by decide, by decide, by decide +kernel⟩, ⟨(dz_g3 26 rfl rfl), (dz_gs 5 3 rfl rfl)⟩⟩
theorem cl_RuleList_43 : dz_Cg R_RuleList 43 y_Rule_isLike b_Rule_isLike 3 (some .boolean) 1 0 := ⟨Or.inl (dz_g3 28 rfl rfl), (dz_g3 31 rfl rfl), (dz_g1 4 rfl rfl), by decide, ⟨by decide, by decide, by decide +kernel⟩, ⟨(dz_g3 29 rfl rfl), (dz_g3 30 rfl rfl)⟩⟩
theorem cl_Law_21 : dz_Cg R_Law 21 y_DotBook_block b_DotBook_block 3 (some .int) 1 0 := ⟨Or.inl (dz_g3 36 rfl rfl), (dz_g3 39 rfl rfl), (dz_g1 1 rfl rfl), by decide, ⟨by decide, by decide, by decide +kernel⟩, ⟨(dz_g3 37 rfl rfl), (dz_g3 38 rfl rfl)⟩⟩
theorem cl_DotBook_81 : dz_Cg R_DotBook 81 y_Typed_canBeTranslated b_Typed_canBeTranslated 2 (some .boolean) 0 0 := ⟨Or.inl (dz_g3 40 rfl rfl), (dz_g3 43 rfl rfl), (dz_g1 2 rfl rfl), by decide, ⟨by decide, by decide, by decide +kernel⟩, ⟨(dz_g3 41 rfl rfl), (dz_g3 42 rfl rfl)⟩⟩
theorem cl_Typed_19 : dz_Cg R_Typed 19 y_Code_hasCell b_Code_hasCell 1 (some .boolean) 1 1 := ⟨Or.inl (dz_g3 44 rfl rfl), (dz_g3 46 rfl rfl), (dz_g1 21 rfl rfl), by decide, ⟨by decide, by decide, by decide +kernel⟩, (dz_g3 45 rfl rfl)⟩
theorem cl_Code_18 : dz_Cg R_Code 18 y_Code_isLetter b_Code_isLetter 1 (some .boolean) 1 1 := ⟨Or.inl (dz_g3 47 rfl rfl), (dz_g3 49 rfl rfl), (dz_g1 21 rfl rfl), by decide, ⟨by decide, by decide, by decide +kernel⟩, (dz_g3 48 rfl rfl)⟩
theorem cl_Code_9 : dz_Cg R_Code 9 y_Code_isSmall b_Code_isSmall 1 (some .boolean) 1 1 := ⟨Or.inl (dz_g3 50 rfl rfl), (dz_g3 15 rfl rfl), (dz_g1 21 rfl rfl), by decide, ⟨by decide, by decide, by decide +kernel⟩, (dz_g3 14 rfl rfl)⟩
theorem cl_Code_15 : dz_Cg R_Code 15 y_Code_isCapital b_Code_isCapital 1 (some .boolean) 1 1 := ⟨Or.inl (dz_g3 51 rfl rfl), (dz_g3 53 rfl rfl), (dz_g1 21 rfl rfl), by decide, ⟨by decide, by decide, by decide +kernel⟩, (dz_g3 52 rfl rfl)⟩
theorem cl_Code_21 : dz_Cg R_Code 21 y_Code_isDigit b_Code_isDigit 1 (some .boolean) 1 1 := ⟨Or.inl (dz_g3 54 rfl rfl), (dz_g3 56 rfl rfl), (dz_g1 21 rfl rfl), by decide, ⟨by decide, by decide, by decide +kernel⟩, (dz_g3 55 rfl rfl)⟩
theorem cl_DotBook_90 : dz_Cg R_DotBook 90 y_Block_begin b_Block_begin 2 none 1 0 := ⟨Or.inl (dz_g3 59 rfl rfl), (dz_g3 62 rfl rfl), (dz_g1 9 rfl rfl), by decide, ⟨by decide, by decide, by decide +kernel⟩, ⟨(dz_g3 60 rfl rfl), (dz_g3 61 rfl rfl)⟩⟩
theorem cl_DotBook_96 : dz_Cg R_DotBook 96 y_Translator_translateInto b_Translator_translateInto 3 none 1 0 := ⟨Or.inl (dz_g3 63 rfl rfl), (dz_g3 66 rfl rfl), (dz_g1 5 rfl rfl), by decide, ⟨by decide, by decide, by decide +kernel⟩, ⟨(dz_g3 64 rfl rfl), (dz_g3 65 rfl rfl)⟩⟩
theorem cl_Translator_25 : dz_Cg R_Translator 25 y_Typed_characterAt b_Typed_characterAt 2 (some .char) 1 0 := ⟨Or.inl (dz_g3 67 rfl rfl), (dz_g2 156 rfl rfl), (dz_g1 2 rfl rfl), by decide, ⟨by decide, by decide, by decide +kernel⟩, ⟨(dz_g2 154 rfl rfl), (dz_g2 155 rfl rfl)⟩⟩
theorem cl_Translator_29 : dz_Cg R_Translator 29 y_Code_isLetter b_Code_isLetter 1 (some .boolean) 1 1 := ⟨Or.inl (dz_g3 68 rfl rfl), (dz_g3 49 rfl rfl), (dz_g1 21 rfl rfl), by decide, ⟨by decide, by decide, by decide +kernel⟩, (dz_g3 48 rfl rfl)⟩
theorem cl_Translator_35 : dz_Cg R_Translator 35 y_Translator_putSingle b_Translator_putSingle 5 none 2 0 := ⟨Or.inl (dz_g3 69 rfl rfl), (dz_g3 72 rfl rfl), (dz_g1 5 rfl rfl), by decide, ⟨by decide, by decide, by decide +kernel⟩, ⟨(dz_g3 71 rfl rfl), (dz_gs 6 5 rfl rfl)⟩⟩
theorem cl_Translator_47 : dz_Cg R_Translator 47 y_Code_isDigit b_Code_isDigit 1 (some .boolean) 1 1 := ⟨Or.inl (dz_g3 73 rfl rfl), (dz_g3 56 rfl rfl), (dz_g1 21 rfl rfl), by decide, ⟨by decide, by decide, by decide +kernel⟩, (dz_g3 55 rfl rfl)⟩
theorem cl_Translator_50 : dz_Cg R_Translator 50 y_Block_put b_Block_put 3 none 2 0 := ⟨Or.inl (dz_g3 74 rfl rfl), (dz_g3 77 rfl rfl), (dz_g1 9 rfl rfl), by decide, ⟨by decide, by decide, by decide +kernel⟩, ⟨(dz_g3 75 rfl rfl), (dz_g3 76 rfl rfl)⟩⟩
theorem cl_Translator_56 : dz_Cg R_Translator 56 y_Code_cellOf b_Code_cellOf 2 (some .int) 1 1 := ⟨Or.inl (dz_g3 78 rfl rfl), (dz_g3 80 rfl rfl), (dz_g1 21 rfl rfl), by decide, ⟨by decide, by decide, by decide +kernel⟩, (dz_g3 79 rfl rfl)⟩
theorem cl_Code_36 : dz_Cg R_Code 36 y_Code_toSmall b_Code_toSmall 1 (some .char) 1 1 := ⟨Or.inl (dz_g3 83 rfl rfl), (dz_g3 85 rfl rfl), (dz_g1 21 rfl rfl), by decide, ⟨by decide, by decide, by decide +kernel⟩, (dz_g3 84 rfl rfl)⟩
theorem cl_Translator_60 : dz_Cg R_Translator 60 y_Code_looksLikeDigit b_Code_looksLikeDigit 1 (some .boolean) 1 1 := ⟨Or.inl (dz_g3 88 rfl rfl), (dz_g3 90 rfl rfl), (dz_g1 21 rfl rfl), by decide, ⟨by decide, by decide, by decide +kernel⟩, (dz_g3 89 rfl rfl)⟩
theorem cl_Translator_39 : dz_Cg R_Translator 39 y_Translator_findWord b_Translator_findWord 5 none 1 0 := ⟨Or.inl (dz_g3 91 rfl rfl), (dz_g3 94 rfl rfl), (dz_g1 5 rfl rfl), by decide, ⟨by decide, by decide, by decide +kernel⟩, ⟨(dz_g3 93 rfl rfl), (dz_gs 7 5 rfl rfl)⟩⟩
theorem cl_Translator_63 : dz_Cg R_Translator 63 y_Code_isCapital b_Code_isCapital 1 (some .boolean) 1 1 := ⟨Or.inl (dz_g3 95 rfl rfl), (dz_g3 53 rfl rfl), (dz_g1 21 rfl rfl), by decide, ⟨by decide, by decide, by decide +kernel⟩, (dz_g3 52 rfl rfl)⟩
theorem cl_Translator_43 : dz_Cg R_Translator 43 y_Translator_putWord b_Translator_putWord 4 none 1 0 := ⟨Or.inl (dz_g3 96 rfl rfl), (dz_g3 99 rfl rfl), (dz_g1 5 rfl rfl), by decide, ⟨by decide, by decide, by decide +kernel⟩, ⟨(dz_g3 98 rfl rfl), (dz_gs 8 5 rfl rfl)⟩⟩
theorem cl_Translator_76 : dz_Cg R_Translator 76 y_Translator_putLettersAt b_Translator_putLettersAt 6 (some .int) 2 0 := ⟨Or.inl (dz_g3 100 rfl rfl), (dz_g3 103 rfl rfl), (dz_g1 5 rfl rfl), by decide, ⟨by decide, by decide, by decide +kernel⟩, ⟨(dz_g3 102 rfl rfl), (dz_gs 9 5 rfl rfl)⟩⟩
theorem cl_Translator_80 : dz_Cg R_Translator 80 y_Translator_ruleAt b_Translator_ruleAt 5 (some (.object "DotBook$Rule")) 1 0 := ⟨Or.inl (dz_g3 104 rfl rfl), (dz_g3 107 rfl rfl), (dz_g1 5 rfl rfl), by decide, ⟨by decide, by decide, by decide +kernel⟩, ⟨(dz_g3 106 rfl rfl), (dz_gs 10 5 rfl rfl)⟩⟩
theorem cl_Translator_103 : dz_Cg R_Translator 103 y_Rule_hasLettersAt b_Rule_hasLettersAt 7 (some .boolean) 3 0 := ⟨Or.inl (dz_g3 108 rfl rfl), (dz_g3 111 rfl rfl), (dz_g1 4 rfl rfl), by decide, ⟨by decide, by decide, by decide +kernel⟩, ⟨(dz_g3 109 rfl rfl), (dz_g3 110 rfl rfl)⟩⟩
theorem cl_Rule_61 : dz_Cg R_Rule 61 y_Code_toSmall b_Code_toSmall 1 (some .char) 1 1 := ⟨Or.inl (dz_g3 112 rfl rfl), (dz_g3 85 rfl rfl), (dz_g1 21 rfl rfl), by decide, ⟨by decide, by decide, by decide +kernel⟩, (dz_g3 84 rfl rfl)⟩
theorem cl_Translator_107 : dz_Cg R_Translator 107 y_Rule_applies b_Rule_applies 3 (some .boolean) 2 0 := ⟨Or.inl (dz_g3 113 rfl rfl), (dz_g3 116 rfl rfl), (dz_g1 4 rfl rfl), by decide, ⟨by decide, by decide, by decide +kernel⟩, ⟨(dz_g3 114 rfl rfl), (dz_g3 115 rfl rfl)⟩⟩
theorem cl_Translator_111 : dz_Cg R_Translator 111 y_Translator_isBetter b_Translator_isBetter 2 (some .boolean) 2 1 := ⟨Or.inl (dz_g3 117 rfl rfl), (dz_g3 119 rfl rfl), (dz_g1 5 rfl rfl), by decide, ⟨by decide, by decide, by decide +kernel⟩, (dz_g3 118 rfl rfl)⟩
theorem cl_DotBook_100 : dz_Cg R_DotBook 100 y_Book_layOut b_Book_layOut 3 none 1 0 := ⟨Or.inl (dz_g3 120 rfl rfl), (dz_g3 123 rfl rfl), (dz_g1 7 rfl rfl), by decide, ⟨by decide, by decide, by decide +kernel⟩, ⟨(dz_g3 121 rfl rfl), (dz_g3 122 rfl rfl)⟩⟩
theorem cl_Book_40 : dz_Cg R_Book 40 y_Block_cutIntoLines b_Block_cutIntoLines 3 none 1 0 := ⟨Or.inl (dz_g3 124 rfl rfl), (dz_g3 127 rfl rfl), (dz_g1 9 rfl rfl), by decide, ⟨by decide, by decide, by decide +kernel⟩, ⟨(dz_g3 125 rfl rfl), (dz_g3 126 rfl rfl)⟩⟩
theorem cl_Block_28 : dz_Cg R_Block 28 y_Block_cellAt b_Block_cellAt 2 (some .int) 1 0 := ⟨Or.inl (dz_g3 128 rfl rfl), (dz_g3 131 rfl rfl), (dz_g1 9 rfl rfl), by decide, ⟨by decide, by decide, by decide +kernel⟩, ⟨(dz_g3 129 rfl rfl), (dz_g3 130 rfl rfl)⟩⟩
theorem cl_Block_38 : dz_Cg R_Block 38 y_Block_endOfPiece b_Block_endOfPiece 4 (some .int) 1 0 := ⟨Or.inl (dz_g3 132 rfl rfl), (dz_g3 135 rfl rfl), (dz_g1 9 rfl rfl), by decide, ⟨by decide, by decide, by decide +kernel⟩, ⟨(dz_g3 133 rfl rfl), (dz_g3 134 rfl rfl)⟩⟩
theorem cl_Block_41 : dz_Cg R_Block 41 y_Block_layPiece b_Block_layPiece 6 none 3 0 := ⟨Or.inl (dz_g3 136 rfl rfl), (dz_g3 139 rfl rfl), (dz_g1 9 rfl rfl), by decide, ⟨by decide, by decide, by decide +kernel⟩, ⟨(dz_g3 138 rfl rfl), (dz_gs 11 9 rfl rfl)⟩⟩
theorem cl_Block_45 : dz_Cg R_Block 45 y_Block_roomLeft b_Block_roomLeft 3 (some .int) 1 0 := ⟨Or.inl (dz_g3 140 rfl rfl), (dz_g3 143 rfl rfl), (dz_g1 9 rfl rfl), by decide, ⟨by decide, by decide, by decide +kernel⟩, ⟨(dz_g3 142 rfl rfl), (dz_gs 12 9 rfl rfl)⟩⟩
theorem cl_Block_55 : dz_Cg R_Block 55 y_Block_indentOf b_Block_indentOf 2 (some .int) 1 0 := ⟨Or.inl (dz_g3 144 rfl rfl), (dz_g3 147 rfl rfl), (dz_g1 9 rfl rfl), by decide, ⟨by decide, by decide, by decide +kernel⟩, ⟨(dz_g3 146 rfl rfl), (dz_gs 13 9 rfl rfl)⟩⟩
theorem cl_Block_58 : dz_Cg R_Block 58 y_Block_lengthOf b_Block_lengthOf 3 (some .int) 1 0 := ⟨Or.inl (dz_g3 148 rfl rfl), (dz_g3 151 rfl rfl), (dz_g1 9 rfl rfl), by decide, ⟨by decide, by decide, by decide +kernel⟩, ⟨(dz_g3 150 rfl rfl), (dz_gs 14 9 rfl rfl)⟩⟩
theorem cl_Block_48 : dz_Cg R_Block 48 y_Block_layCell b_Block_layCell 2 none 1 0 := ⟨Or.inl (dz_g3 152 rfl rfl), (dz_g3 155 rfl rfl), (dz_g1 9 rfl rfl), by decide, ⟨by decide, by decide, by decide +kernel⟩, ⟨(dz_g3 154 rfl rfl), (dz_gs 15 9 rfl rfl)⟩⟩
theorem cl_Block_52 : dz_Cg R_Block 52 y_Block_beginLine b_Block_beginLine 1 none 0 0 := ⟨Or.inl (dz_g3 156 rfl rfl), (dz_g3 159 rfl rfl), (dz_g1 9 rfl rfl), by decide, ⟨by decide, by decide, by decide +kernel⟩, ⟨(dz_g3 158 rfl rfl), (dz_gs 16 9 rfl rfl)⟩⟩
theorem cl_Book_47 : dz_Cg R_Book 47 y_Book_turnPage b_Book_turnPage 1 none 0 0 := ⟨Or.inl (dz_g3 160 rfl rfl), (dz_g3 163 rfl rfl), (dz_g1 7 rfl rfl), by decide, ⟨by decide, by decide, by decide +kernel⟩, ⟨(dz_g3 162 rfl rfl), (dz_gs 17 8 rfl rfl)⟩⟩
theorem cl_Book_53 : dz_Cg R_Book 53 y_Book_makeWayForHeading b_Book_makeWayForHeading 3 none 1 0 := ⟨Or.inl (dz_g3 164 rfl rfl), (dz_g3 167 rfl rfl), (dz_g1 7 rfl rfl), by decide, ⟨by decide, by decide, by decide +kernel⟩, ⟨(dz_g3 166 rfl rfl), (dz_gs 18 8 rfl rfl)⟩⟩
theorem cl_Law_25 : dz_Cg R_Law 25 y_DotBook_size b_DotBook_size 2 (some .int) 1 0 := ⟨Or.inl (dz_g3 172 rfl rfl), (dz_g3 175 rfl rfl), (dz_g1 1 rfl rfl), by decide, ⟨by decide, by decide, by decide +kernel⟩, ⟨(dz_g3 173 rfl rfl), (dz_g3 174 rfl rfl)⟩⟩
theorem cl_Law_30 : dz_Cg R_Law 30 y_DotBook_cell b_DotBook_cell 3 (some .int) 2 0 := ⟨Or.inl (dz_g3 194 rfl rfl), (dz_g3 197 rfl rfl), (dz_g1 1 rfl rfl), by decide, ⟨by decide, by decide, by decide +kernel⟩, ⟨(dz_g3 195 rfl rfl), (dz_g3 196 rfl rfl)⟩⟩
theorem cl_Law_34 : dz_Cg R_Law 34 y_DotBook_back b_DotBook_back 2 (some .int) 1 0 := ⟨Or.inl (dz_g3 201 rfl rfl), (dz_g3 204 rfl rfl), (dz_g1 1 rfl rfl), by decide, ⟨by decide, by decide, by decide +kernel⟩, ⟨(dz_g3 202 rfl rfl), (dz_g3 203 rfl rfl)⟩⟩
theorem cl_DotBook_111 : dz_Cg R_DotBook 111 y_Reader_readBlock b_Reader_readBlock 3 none 1 0 := ⟨Or.inl (dz_g3 205 rfl rfl), (dz_g3 208 rfl rfl), (dz_g1 6 rfl rfl), by decide, ⟨by decide, by decide, by decide +kernel⟩, ⟨(dz_g3 206 rfl rfl), (dz_g3 207 rfl rfl)⟩⟩
theorem cl_Reader_26 : dz_Cg R_Reader 26 y_Block_cellAt b_Block_cellAt 2 (some .int) 1 0 := ⟨Or.inl (dz_g3 209 rfl rfl), (dz_g3 131 rfl rfl), (dz_g1 9 rfl rfl), by decide, ⟨by decide, by decide, by decide +kernel⟩, ⟨(dz_g3 129 rfl rfl), (dz_g3 130 rfl rfl)⟩⟩
theorem cl_Reader_30 : dz_Cg R_Reader 30 y_Reader_put b_Reader_put 2 none 1 0 := ⟨Or.inl (dz_g3 210 rfl rfl), (dz_g3 213 rfl rfl), (dz_g1 6 rfl rfl), by decide, ⟨by decide, by decide, by decide +kernel⟩, ⟨(dz_g3 212 rfl rfl), (dz_gs 19 8 rfl rfl)⟩⟩
theorem cl_Reader_34 : dz_Cg R_Reader 34 y_Reader_readPiece b_Reader_readPiece 5 none 2 0 := ⟨Or.inl (dz_g3 214 rfl rfl), (dz_g3 217 rfl rfl), (dz_g1 6 rfl rfl), by decide, ⟨by decide, by decide, by decide +kernel⟩, ⟨(dz_g3 216 rfl rfl), (dz_gs 20 8 rfl rfl)⟩⟩
theorem cl_Reader_38 : dz_Cg R_Reader 38 y_Reader_capitalSignsAt b_Reader_capitalSignsAt 4 (some .int) 2 1 := ⟨Or.inl (dz_g3 218 rfl rfl), (dz_g3 220 rfl rfl), (dz_g1 6 rfl rfl), by decide, ⟨by decide, by decide, by decide +kernel⟩, (dz_g3 219 rfl rfl)⟩
theorem cl_Reader_45 : dz_Cg R_Reader 45 y_Block_endOfPiece b_Block_endOfPiece 4 (some .int) 1 0 := ⟨Or.inl (dz_g3 221 rfl rfl), (dz_g3 135 rfl rfl), (dz_g1 9 rfl rfl), by decide, ⟨by decide, by decide, by decide +kernel⟩, ⟨(dz_g3 133 rfl rfl), (dz_g3 134 rfl rfl)⟩⟩
theorem cl_Reader_61 : dz_Cg R_Reader 61 y_Reader_readCellsAt b_Reader_readCellsAt 6 (some .int) 2 0 := ⟨Or.inl (dz_g3 222 rfl rfl), (dz_g3 225 rfl rfl), (dz_g1 6 rfl rfl), by decide, ⟨by decide, by decide, by decide +kernel⟩, ⟨(dz_g3 224 rfl rfl), (dz_gs 21 8 rfl rfl)⟩⟩
theorem cl_Reader_64 : dz_Cg R_Reader 64 y_Code_digitOf b_Code_digitOf 2 (some .char) 1 1 := ⟨Or.inl (dz_g3 226 rfl rfl), (dz_g3 228 rfl rfl), (dz_g1 21 rfl rfl), by decide, ⟨by decide, by decide, by decide +kernel⟩, (dz_g3 227 rfl rfl)⟩
theorem cl_Reader_70 : dz_Cg R_Reader 70 y_Reader_passCapitalSigns b_Reader_passCapitalSigns 4 (some .int) 2 0 := ⟨Or.inl (dz_g3 229 rfl rfl), (dz_g3 232 rfl rfl), (dz_g1 6 rfl rfl), by decide, ⟨by decide, by decide, by decide +kernel⟩, ⟨(dz_g3 231 rfl rfl), (dz_gs 22 8 rfl rfl)⟩⟩
theorem cl_Reader_73 : dz_Cg R_Reader 73 y_Reader_ruleAt b_Reader_ruleAt 6 (some (.object "DotBook$Rule")) 2 0 := ⟨Or.inl (dz_g3 233 rfl rfl), (dz_g3 236 rfl rfl), (dz_g1 6 rfl rfl), by decide, ⟨by decide, by decide, by decide +kernel⟩, ⟨(dz_g3 235 rfl rfl), (dz_gs 23 8 rfl rfl)⟩⟩
theorem cl_Reader_100 : dz_Cg R_Reader 100 y_Rule_hasCellsAt b_Rule_hasCellsAt 4 (some .boolean) 2 0 := ⟨Or.inl (dz_g3 237 rfl rfl), (dz_g4 0 rfl rfl), (dz_g1 4 rfl rfl), by decide, ⟨by decide, by decide, by decide +kernel⟩, ⟨(dz_g3 238 rfl rfl), (dz_g3 239 rfl rfl)⟩⟩
theorem cl_Rule_65 : dz_Cg R_Rule 65 y_Block_cellAt b_Block_cellAt 2 (some .int) 1 0 := ⟨Or.inl (dz_g4 1 rfl rfl), (dz_g3 131 rfl rfl), (dz_g1 9 rfl rfl), by decide, ⟨by decide, by decide, by decide +kernel⟩, ⟨(dz_g3 129 rfl rfl), (dz_g3 130 rfl rfl)⟩⟩
theorem cl_Reader_104 : dz_Cg R_Reader 104 y_Rule_applies b_Rule_applies 3 (some .boolean) 2 0 := ⟨Or.inl (dz_g4 2 rfl rfl), (dz_g3 116 rfl rfl), (dz_g1 4 rfl rfl), by decide, ⟨by decide, by decide, by decide +kernel⟩, ⟨(dz_g3 114 rfl rfl), (dz_g3 115 rfl rfl)⟩⟩
theorem cl_Reader_108 : dz_Cg R_Reader 108 y_Reader_isBetter b_Reader_isBetter 2 (some .boolean) 2 1 := ⟨Or.inl (dz_g4 3 rfl rfl), (dz_g4 5 rfl rfl), (dz_g1 6 rfl rfl), by decide, ⟨by decide, by decide, by decide +kernel⟩, (dz_g4 4 rfl rfl)⟩
theorem cl_Reader_77 : dz_Cg R_Reader 77 y_Code_characterOf b_Code_characterOf 2 (some .char) 1 1 := ⟨Or.inl (dz_g4 6 rfl rfl), (dz_g4 8 rfl rfl), (dz_g1 21 rfl rfl), by decide, ⟨by decide, by decide, by decide +kernel⟩, (dz_g4 7 rfl rfl)⟩
theorem cl_Reader_80 : dz_Cg R_Reader 80 y_Reader_putInCase b_Reader_putInCase 2 none 1 0 := ⟨Or.inl (dz_g4 29 rfl rfl), (dz_g4 32 rfl rfl), (dz_g1 6 rfl rfl), by decide, ⟨by decide, by decide, by decide +kernel⟩, ⟨(dz_g4 31 rfl rfl), (dz_gs 24 8 rfl rfl)⟩⟩
theorem cl_Reader_115 : dz_Cg R_Reader 115 y_Code_toCapital b_Code_toCapital 1 (some .char) 1 1 := ⟨Or.inl (dz_g4 33 rfl rfl), (dz_g4 35 rfl rfl), (dz_g1 21 rfl rfl), by decide, ⟨by decide, by decide, by decide +kernel⟩, (dz_g4 34 rfl rfl)⟩
theorem cl_Reader_119 : dz_Cg R_Reader 119 y_Code_isSmall b_Code_isSmall 1 (some .boolean) 1 1 := ⟨Or.inl (dz_g4 36 rfl rfl), (dz_g3 15 rfl rfl), (dz_g1 21 rfl rfl), by decide, ⟨by decide, by decide, by decide +kernel⟩, (dz_g3 14 rfl rfl)⟩
theorem cl_Law_37 : dz_Cg R_Law 37 y_DotBook_at b_DotBook_at 4 (some .int) 3 0 := ⟨Or.inl (dz_g4 40 rfl rfl), (dz_g4 43 rfl rfl), (dz_g1 1 rfl rfl), by decide, ⟨by decide, by decide, by decide +kernel⟩, ⟨(dz_g4 41 rfl rfl), (dz_g4 42 rfl rfl)⟩⟩
theorem cl_DotBook_131 : dz_Cg R_DotBook 131 y_Book_cellOfNumber b_Book_cellOfNumber 6 (some .int) 2 0 := ⟨Or.inl (dz_g4 44 rfl rfl), (dz_g4 47 rfl rfl), (dz_g1 7 rfl rfl), by decide, ⟨by decide, by decide, by decide +kernel⟩, ⟨(dz_g4 45 rfl rfl), (dz_g4 46 rfl rfl)⟩⟩
theorem cl_Book_64 : dz_Cg R_Book 64 y_Code_cellOf b_Code_cellOf 2 (some .int) 1 1 := ⟨Or.inl (dz_g4 48 rfl rfl), (dz_g3 80 rfl rfl), (dz_g1 21 rfl rfl), by decide, ⟨by decide, by decide, by decide +kernel⟩, (dz_g3 79 rfl rfl)⟩
theorem cl_DotBook_134 : dz_Cg R_DotBook 134 y_Book_cellOfText b_Book_cellOfText 7 (some .int) 3 0 := ⟨Or.inl (dz_g4 49 rfl rfl), (dz_g4 52 rfl rfl), (dz_g1 7 rfl rfl), by decide, ⟨by decide, by decide, by decide +kernel⟩, ⟨(dz_g4 50 rfl rfl), (dz_g4 51 rfl rfl)⟩⟩
theorem cl_Book_60 : dz_Cg R_Book 60 y_Block_cellOfLine b_Block_cellOfLine 6 (some .int) 3 0 := ⟨Or.inl (dz_g4 53 rfl rfl), (dz_g4 56 rfl rfl), (dz_g1 9 rfl rfl), by decide, ⟨by decide, by decide, by decide +kernel⟩, ⟨(dz_g4 54 rfl rfl), (dz_g4 55 rfl rfl)⟩⟩
theorem cl_Law_41 : dz_Cg R_Law 41 y_DotBook_where b_DotBook_where 3 (some .int) 1 0 := ⟨Or.inl (dz_g4 60 rfl rfl), (dz_g4 63 rfl rfl), (dz_g1 1 rfl rfl), by decide, ⟨by decide, by decide, by decide +kernel⟩, ⟨(dz_g4 61 rfl rfl), (dz_g4 62 rfl rfl)⟩⟩
theorem cl_Law_54 : dz_Cg R_Law 54 y_Model_init b_Model_init 3 none 2 2 := ⟨Or.inl (dz_g4 66 rfl rfl), (dz_g4 68 rfl rfl), (dz_g1 10 rfl rfl), by decide, ⟨by decide, by decide, by decide +kernel⟩, ⟨(dz_g4 67 rfl rfl), rfl, rfl⟩⟩
theorem cl_Law_59 : dz_Cg R_Law 59 y_Model_thrown b_Model_thrown 1 (some .int) 0 0 := ⟨Or.inl (dz_g4 158 rfl rfl), (dz_g4 161 rfl rfl), (dz_g1 10 rfl rfl), by decide, ⟨by decide, by decide, by decide +kernel⟩, ⟨(dz_g4 159 rfl rfl), (dz_g4 160 rfl rfl)⟩⟩
theorem cl_Law_58 : dz_Cg R_Law 58 y_Model_type b_Model_type 2 (some .int) 1 0 := ⟨Or.inl (dz_g4 162 rfl rfl), (dz_g4 165 rfl rfl), (dz_g1 10 rfl rfl), by decide, ⟨by decide, by decide, by decide +kernel⟩, ⟨(dz_g4 163 rfl rfl), (dz_g4 164 rfl rfl)⟩⟩
theorem cl_Law_66 : dz_Cg R_Law 66 y_Model_wipe b_Model_wipe 1 none 0 0 := ⟨Or.inl (dz_g4 166 rfl rfl), (dz_g4 169 rfl rfl), (dz_g1 10 rfl rfl), by decide, ⟨by decide, by decide, by decide +kernel⟩, ⟨(dz_g4 167 rfl rfl), (dz_g4 168 rfl rfl)⟩⟩
theorem cl_Law_70 : dz_Cg R_Law 70 y_Model_rules b_Model_rules 7 (some .int) 1 0 := ⟨Or.inl (dz_g4 170 rfl rfl), (dz_g4 173 rfl rfl), (dz_g1 10 rfl rfl), by decide, ⟨by decide, by decide, by decide +kernel⟩, ⟨(dz_g4 171 rfl rfl), (dz_g4 172 rfl rfl)⟩⟩
theorem cl_Model_97 : dz_Cg R_Model 97 y_Model_takeRule b_Model_takeRule 5 (some .boolean) 2 0 := ⟨Or.inl (dz_g4 174 rfl rfl), (dz_g4 177 rfl rfl), (dz_g1 10 rfl rfl), by decide, ⟨by decide, by decide, by decide +kernel⟩, ⟨(dz_g4 176 rfl rfl), (dz_gs 25 29 rfl rfl)⟩⟩
theorem cl_Model_86 : dz_Cg R_Model 86 y_Model_kindOf b_Model_kindOf 2 (some .int) 1 0 := ⟨Or.inl (dz_g4 178 rfl rfl), (dz_g4 181 rfl rfl), (dz_g1 10 rfl rfl), by decide, ⟨by decide, by decide, by decide +kernel⟩, ⟨(dz_g4 180 rfl rfl), (dz_gs 26 29 rfl rfl)⟩⟩
theorem cl_Model_66 : dz_Cg R_Model 66 y_Model_isSmall b_Model_isSmall 2 (some .boolean) 1 0 := ⟨Or.inl (dz_g4 182 rfl rfl), (dz_g4 185 rfl rfl), (dz_g1 10 rfl rfl), by decide, ⟨by decide, by decide, by decide +kernel⟩, ⟨(dz_g4 184 rfl rfl), (dz_gs 27 29 rfl rfl)⟩⟩
theorem cl_Model_89 : dz_Cg R_Model 89 y_Model_readCells b_Model_readCells 8 (some .boolean) 2 0 := ⟨Or.inl (dz_g4 186 rfl rfl), (dz_g4 189 rfl rfl), (dz_g1 10 rfl rfl), by decide, ⟨by decide, by decide, by decide +kernel⟩, ⟨(dz_g4 188 rfl rfl), (dz_gs 28 29 rfl rfl)⟩⟩
theorem cl_Model_93 : dz_Cg R_Model 93 y_Model_isThere b_Model_isThere 4 (some .boolean) 0 0 := ⟨Or.inl (dz_g4 190 rfl rfl), (dz_g4 193 rfl rfl), (dz_g1 10 rfl rfl), by decide, ⟨by decide, by decide, by decide +kernel⟩, ⟨(dz_g4 192 rfl rfl), (dz_gs 29 29 rfl rfl)⟩⟩
theorem cl_Law_74 : dz_Cg R_Law 74 y_Model_wrong b_Model_wrong 1 (some .int) 0 0 := ⟨Or.inl (dz_g4 194 rfl rfl), (dz_g4 197 rfl rfl), (dz_g1 10 rfl rfl), by decide, ⟨by decide, by decide, by decide +kernel⟩, ⟨(dz_g4 195 rfl rfl), (dz_g4 196 rfl rfl)⟩⟩
theorem cl_Law_78 : dz_Cg R_Law 78 y_Model_block b_Model_block 5 (some .int) 1 0 := ⟨Or.inl (dz_g4 198 rfl rfl), (dz_g4 201 rfl rfl), (dz_g1 10 rfl rfl), by decide, ⟨by decide, by decide, by decide +kernel⟩, ⟨(dz_g4 199 rfl rfl), (dz_g4 200 rfl rfl)⟩⟩
theorem cl_Model_119 : dz_Cg R_Model 119 y_Model_isLetter b_Model_isLetter 2 (some .boolean) 1 0 := ⟨Or.inl (dz_g4 202 rfl rfl), (dz_g4 205 rfl rfl), (dz_g1 10 rfl rfl), by decide, ⟨by decide, by decide, by decide +kernel⟩, ⟨(dz_g4 204 rfl rfl), (dz_gs 30 29 rfl rfl)⟩⟩
theorem cl_Model_70 : dz_Cg R_Model 70 y_Model_isCapital b_Model_isCapital 2 (some .boolean) 1 0 := ⟨Or.inl (dz_g4 206 rfl rfl), (dz_g4 209 rfl rfl), (dz_g1 10 rfl rfl), by decide, ⟨by decide, by decide, by decide +kernel⟩, ⟨(dz_g4 208 rfl rfl), (dz_gs 31 29 rfl rfl)⟩⟩
theorem cl_Model_125 : dz_Cg R_Model 125 y_Model_isDigit b_Model_isDigit 2 (some .boolean) 1 0 := ⟨Or.inl (dz_g4 210 rfl rfl), (dz_g4 213 rfl rfl), (dz_g1 10 rfl rfl), by decide, ⟨by decide, by decide, by decide +kernel⟩, ⟨(dz_g4 212 rfl rfl), (dz_gs 32 29 rfl rfl)⟩⟩
theorem cl_Model_73 : dz_Cg R_Model 73 y_Model_markOf b_Model_markOf 2 (some .int) 1 0 := ⟨Or.inl (dz_g4 214 rfl rfl), (dz_g4 217 rfl rfl), (dz_g1 10 rfl rfl), by decide, ⟨by decide, by decide, by decide +kernel⟩, ⟨(dz_g4 216 rfl rfl), (dz_gs 33 29 rfl rfl)⟩⟩
theorem cl_Model_132 : dz_Cg R_Model 132 y_Model_translate b_Model_translate 4 none 0 0 := ⟨Or.inl (dz_g4 218 rfl rfl), (dz_g4 221 rfl rfl), (dz_g1 10 rfl rfl), by decide, ⟨by decide, by decide, by decide +kernel⟩, ⟨(dz_g4 220 rfl rfl), (dz_gs 34 29 rfl rfl)⟩⟩
theorem cl_Model_122 : dz_Cg R_Model 122 y_Model_translateWord b_Model_translateWord 8 none 2 0 := ⟨Or.inl (dz_g4 222 rfl rfl), (dz_g4 225 rfl rfl), (dz_g1 10 rfl rfl), by decide, ⟨by decide, by decide, by decide +kernel⟩, ⟨(dz_g4 224 rfl rfl), (dz_gs 35 29 rfl rfl)⟩⟩
theorem cl_Model_111 : dz_Cg R_Model 111 y_Model_add b_Model_add 3 none 2 0 := ⟨Or.inl (dz_g4 226 rfl rfl), (dz_g4 229 rfl rfl), (dz_g1 10 rfl rfl), by decide, ⟨by decide, by decide, by decide +kernel⟩, ⟨(dz_g4 228 rfl rfl), (dz_gs 36 29 rfl rfl)⟩⟩
theorem cl_Model_115 : dz_Cg R_Model 115 y_Model_stands b_Model_stands 10 (some .boolean) 5 0 := ⟨Or.inl (dz_g4 230 rfl rfl), (dz_g4 233 rfl rfl), (dz_g1 10 rfl rfl), by decide, ⟨by decide, by decide, by decide +kernel⟩, ⟨(dz_g4 232 rfl rfl), (dz_gs 37 29 rfl rfl)⟩⟩
theorem cl_Model_103 : dz_Cg R_Model 103 y_Model_applies b_Model_applies 8 (some .boolean) 5 0 := ⟨Or.inl (dz_g4 234 rfl rfl), (dz_g4 237 rfl rfl), (dz_g1 10 rfl rfl), by decide, ⟨by decide, by decide, by decide +kernel⟩, ⟨(dz_g4 236 rfl rfl), (dz_gs 38 29 rfl rfl)⟩⟩
theorem cl_Model_107 : dz_Cg R_Model 107 y_Model_small b_Model_small 2 (some .char) 1 0 := ⟨Or.inl (dz_g4 238 rfl rfl), (dz_g5 1 rfl rfl), (dz_g1 10 rfl rfl), by decide, ⟨by decide, by decide, by decide +kernel⟩, ⟨(dz_g5 0 rfl rfl), (dz_gs 39 29 rfl rfl)⟩⟩
theorem cl_Model_77 : dz_Cg R_Model 77 y_Model_cellOf b_Model_cellOf 2 (some .int) 1 0 := ⟨Or.inl (dz_g5 2 rfl rfl), (dz_g5 5 rfl rfl), (dz_g1 10 rfl rfl), by decide, ⟨by decide, by decide, by decide +kernel⟩, ⟨(dz_g5 4 rfl rfl), (dz_gs 40 29 rfl rfl)⟩⟩
theorem cl_Model_128 : dz_Cg R_Model 128 y_Model_digitCell b_Model_digitCell 2 (some .int) 1 0 := ⟨Or.inl (dz_g5 6 rfl rfl), (dz_g5 9 rfl rfl), (dz_g1 10 rfl rfl), by decide, ⟨by decide, by decide, by decide +kernel⟩, ⟨(dz_g5 8 rfl rfl), (dz_gs 41 29 rfl rfl)⟩⟩
theorem cl_Law_81 : dz_Cg R_Law 81 y_Model_size b_Model_size 2 (some .int) 1 0 := ⟨Or.inl (dz_g5 10 rfl rfl), (dz_g5 13 rfl rfl), (dz_g1 10 rfl rfl), by decide, ⟨by decide, by decide, by decide +kernel⟩, ⟨(dz_g5 11 rfl rfl), (dz_g5 12 rfl rfl)⟩⟩
theorem cl_Model_135 : dz_Cg R_Model 135 y_Model_noBlock b_Model_noBlock 2 (some .boolean) 1 0 := ⟨Or.inl (dz_g5 14 rfl rfl), (dz_g5 17 rfl rfl), (dz_g1 10 rfl rfl), by decide, ⟨by decide, by decide, by decide +kernel⟩, ⟨(dz_g5 16 rfl rfl), (dz_gs 42 29 rfl rfl)⟩⟩
theorem cl_Law_85 : dz_Cg R_Law 85 y_Model_cell b_Model_cell 3 (some .int) 2 0 := ⟨Or.inl (dz_g5 18 rfl rfl), (dz_g5 21 rfl rfl), (dz_g1 10 rfl rfl), by decide, ⟨by decide, by decide, by decide +kernel⟩, ⟨(dz_g5 19 rfl rfl), (dz_g5 20 rfl rfl)⟩⟩
theorem cl_Law_88 : dz_Cg R_Law 88 y_Model_back b_Model_back 5 (some .int) 1 0 := ⟨Or.inl (dz_g5 22 rfl rfl), (dz_g5 25 rfl rfl), (dz_g1 10 rfl rfl), by decide, ⟨by decide, by decide, by decide +kernel⟩, ⟨(dz_g5 23 rfl rfl), (dz_g5 24 rfl rfl)⟩⟩
theorem cl_Model_153 : dz_Cg R_Model 153 y_Model_hear b_Model_hear 3 none 1 0 := ⟨Or.inl (dz_g5 26 rfl rfl), (dz_g5 29 rfl rfl), (dz_g1 10 rfl rfl), by decide, ⟨by decide, by decide, by decide +kernel⟩, ⟨(dz_g5 28 rfl rfl), (dz_gs 43 29 rfl rfl)⟩⟩
theorem cl_Model_164 : dz_Cg R_Model 164 y_Model_readPiece b_Model_readPiece 7 none 2 0 := ⟨Or.inl (dz_g5 30 rfl rfl), (dz_g5 33 rfl rfl), (dz_g1 10 rfl rfl), by decide, ⟨by decide, by decide, by decide +kernel⟩, ⟨(dz_g5 32 rfl rfl), (dz_gs 44 29 rfl rfl)⟩⟩
theorem cl_Model_157 : dz_Cg R_Model 157 y_Model_digitOf b_Model_digitOf 3 (some .int) 1 0 := ⟨Or.inl (dz_g5 34 rfl rfl), (dz_g5 37 rfl rfl), (dz_g1 10 rfl rfl), by decide, ⟨by decide, by decide, by decide +kernel⟩, ⟨(dz_g5 36 rfl rfl), (dz_gs 45 29 rfl rfl)⟩⟩
theorem cl_Model_160 : dz_Cg R_Model 160 y_Model_readOne b_Model_readOne 7 (some .int) 3 0 := ⟨Or.inl (dz_g5 38 rfl rfl), (dz_g5 41 rfl rfl), (dz_g1 10 rfl rfl), by decide, ⟨by decide, by decide, by decide +kernel⟩, ⟨(dz_g5 40 rfl rfl), (dz_gs 46 29 rfl rfl)⟩⟩
theorem cl_Model_145 : dz_Cg R_Model 145 y_Model_cellsStand b_Model_cellsStand 8 (some .boolean) 4 0 := ⟨Or.inl (dz_g5 42 rfl rfl), (dz_g5 45 rfl rfl), (dz_g1 10 rfl rfl), by decide, ⟨by decide, by decide, by decide +kernel⟩, ⟨(dz_g5 44 rfl rfl), (dz_gs 47 29 rfl rfl)⟩⟩
theorem cl_Model_149 : dz_Cg R_Model 149 y_Model_characterOf b_Model_characterOf 3 (some .char) 1 0 := ⟨Or.inl (dz_g5 46 rfl rfl), (dz_g5 49 rfl rfl), (dz_g1 10 rfl rfl), by decide, ⟨by decide, by decide, by decide +kernel⟩, ⟨(dz_g5 48 rfl rfl), (dz_gs 48 29 rfl rfl)⟩⟩
theorem cl_Law_93 : dz_Cg R_Law 93 y_Model_heard b_Model_heard 2 (some .char) 1 0 := ⟨Or.inl (dz_g5 50 rfl rfl), (dz_g5 53 rfl rfl), (dz_g1 10 rfl rfl), by decide, ⟨by decide, by decide, by decide +kernel⟩, ⟨(dz_g5 51 rfl rfl), (dz_g5 52 rfl rfl)⟩⟩
theorem cl_Law_97 : dz_Cg R_Law 97 y_Model_pages b_Model_pages 1 (some .int) 0 0 := ⟨Or.inl (dz_g5 54 rfl rfl), (dz_g5 57 rfl rfl), (dz_g1 10 rfl rfl), by decide, ⟨by decide, by decide, by decide +kernel⟩, ⟨(dz_g5 55 rfl rfl), (dz_g5 56 rfl rfl)⟩⟩
theorem cl_Model_200 : dz_Cg R_Model 200 y_Model_layOut b_Model_layOut 6 none 2 0 := ⟨Or.inl (dz_g5 58 rfl rfl), (dz_g5 61 rfl rfl), (dz_g1 10 rfl rfl), by decide, ⟨by decide, by decide, by decide +kernel⟩, ⟨(dz_g5 60 rfl rfl), (dz_gs 49 29 rfl rfl)⟩⟩
theorem cl_Model_196 : dz_Cg R_Model 196 y_Model_lay b_Model_lay 9 (some .int) 2 0 := ⟨Or.inl (dz_g5 62 rfl rfl), (dz_g5 65 rfl rfl), (dz_g1 10 rfl rfl), by decide, ⟨by decide, by decide, by decide +kernel⟩, ⟨(dz_g5 64 rfl rfl), (dz_gs 50 29 rfl rfl)⟩⟩
theorem cl_Model_185 : dz_Cg R_Model 185 y_Model_indentOf b_Model_indentOf 3 (some .int) 2 0 := ⟨Or.inl (dz_g5 66 rfl rfl), (dz_g5 69 rfl rfl), (dz_g1 10 rfl rfl), by decide, ⟨by decide, by decide, by decide +kernel⟩, ⟨(dz_g5 68 rfl rfl), (dz_gs 51 29 rfl rfl)⟩⟩
theorem cl_Model_189 : dz_Cg R_Model 189 y_Model_closeLine b_Model_closeLine 4 none 3 0 := ⟨Or.inl (dz_g5 70 rfl rfl), (dz_g5 73 rfl rfl), (dz_g1 10 rfl rfl), by decide, ⟨by decide, by decide, by decide +kernel⟩, ⟨(dz_g5 72 rfl rfl), (dz_gs 52 29 rfl rfl)⟩⟩
theorem cl_Model_193 : dz_Cg R_Model 193 y_Model_putLine b_Model_putLine 5 none 2 0 := ⟨Or.inl (dz_g5 74 rfl rfl), (dz_g5 77 rfl rfl), (dz_g1 10 rfl rfl), by decide, ⟨by decide, by decide, by decide +kernel⟩, ⟨(dz_g5 76 rfl rfl), (dz_gs 53 29 rfl rfl)⟩⟩
theorem cl_Law_101 : dz_Cg R_Law 101 y_Model_at b_Model_at 4 (some .int) 3 0 := ⟨Or.inl (dz_g5 78 rfl rfl), (dz_g5 81 rfl rfl), (dz_g1 10 rfl rfl), by decide, ⟨by decide, by decide, by decide +kernel⟩, ⟨(dz_g5 79 rfl rfl), (dz_g5 80 rfl rfl)⟩⟩
theorem cl_Model_203 : dz_Cg R_Model 203 y_Model_number b_Model_number 4 none 1 0 := ⟨Or.inl (dz_g5 82 rfl rfl), (dz_g5 85 rfl rfl), (dz_g1 10 rfl rfl), by decide, ⟨by decide, by decide, by decide +kernel⟩, ⟨(dz_g5 84 rfl rfl), (dz_gs 54 29 rfl rfl)⟩⟩
theorem cl_Law_104 : dz_Cg R_Law 104 y_Model_where b_Model_where 2 (some .int) 1 0 := ⟨Or.inl (dz_g5 86 rfl rfl), (dz_g5 89 rfl rfl), (dz_g1 10 rfl rfl), by decide, ⟨by decide, by decide, by decide +kernel⟩, ⟨(dz_g5 87 rfl rfl), (dz_g5 88 rfl rfl)⟩⟩
theorem cl_Law_108 : dz_Cg R_Law 108 y_Model_heading b_Model_heading 4 (some .int) 1 0 := ⟨Or.inl (dz_g5 90 rfl rfl), (dz_g5 93 rfl rfl), (dz_g1 10 rfl rfl), by decide, ⟨by decide, by decide, by decide +kernel⟩, ⟨(dz_g5 91 rfl rfl), (dz_g5 92 rfl rfl)⟩⟩
theorem cl_Law_112 : dz_Cg R_Law 112 y_Model_clear b_Model_clear 1 none 0 0 := ⟨Or.inl (dz_g5 94 rfl rfl), (dz_g5 97 rfl rfl), (dz_g1 10 rfl rfl), by decide, ⟨by decide, by decide, by decide +kernel⟩, ⟨(dz_g5 95 rfl rfl), (dz_g5 96 rfl rfl)⟩⟩
end
section
/-! THE LAYOUT: what lies where behind the two constructors, from the address b on. -/
def ly_k (o : Nat) : Option ((Nat × Nat) ⊕ Nat) :=
  if o = 0 then some (.inr 7) else
  if o = 1 then some (.inr 0) else
  if o = 2 then some (.inl (1, 80)) else
  if o = 3 then some (.inr 1) else
  if o = 4 then some (.inl (3, 24)) else
  if o = 77 then some (.inr 3) else
  if o = 78 then some (.inr 4) else
  if o = 79 then some (.inl (1, 1200)) else
  if o = 80 then some (.inr 5) else
  if o = 81 then some (.inl (4, 12)) else
  if o = 130 then some (.inr 8) else
  if o = 131 then some (.inl (1, 80)) else
  if o = 132 then some (.inl (0, 24)) else
  if o = 133 then some (.inl (0, 24)) else
  if o = 134 then some (.inl (1, 144)) else
  if o = 135 then some (.inl (0, 24)) else
  if o = 136 then some (.inl (0, 72)) else
  if o = 137 then some (.inl (0, 12)) else
  if o = 138 then some (.inl (0, 12)) else
  if o = 139 then some (.inl (0, 2880)) else
  if o = 140 then some (.inl (0, 2880)) else
  if o = 141 then some (.inl (1, 1500)) else
  if o = 142 then some (.inl (0, 40)) else
  if o = 143 then some (.inl (0, 40)) else
  if o = 144 then some (.inl (0, 12)) else
  if o = 145 then some (.inl (2, 1)) else
  if 5 ≤ o ∧ o < 77 then (if (o - 5) % 3 = 0 then some (.inr 2) else if (o - 5) % 3 = 1 then some (.inl (1, 6)) else some (.inl (0, 3))) else
  if 82 ≤ o ∧ o < 130 then (if (o - 82) % 4 = 0 then some (.inr 6) else some (.inl (0, 200))) else none
def ly_s (b : Nat) : dz_Sk := fun q => if q < b then none else ly_k (q - b)
def ly_rr (o : Nat) (k : Int) : Option Nat :=
  if o = 0 ∧ k = 0 then some 1 else
  if o = 0 ∧ k = 1 then some 3 else
  if o = 0 ∧ k = 2 then some 77 else
  if o = 0 ∧ k = 3 then some 78 else
  if o = 0 ∧ k = 4 then some 80 else
  if o = 1 ∧ k = 0 then some 2 else
  if o = 3 ∧ k = 0 then some 4 else
  if o = 77 ∧ k = 0 then some 1 else
  if o = 77 ∧ k = 1 then some 3 else
  if o = 78 ∧ k = 0 then some 3 else
  if o = 78 ∧ k = 1 then some 79 else
  if o = 80 ∧ k = 3 then some 81 else
  if o = 130 ∧ k = 4 then some 131 else
  if o = 130 ∧ k = 6 then some 132 else
  if o = 130 ∧ k = 7 then some 133 else
  if o = 130 ∧ k = 8 then some 134 else
  if o = 130 ∧ k = 9 then some 135 else
  if o = 130 ∧ k = 10 then some 136 else
  if o = 130 ∧ k = 13 then some 137 else
  if o = 130 ∧ k = 14 then some 138 else
  if o = 130 ∧ k = 15 then some 139 else
  if o = 130 ∧ k = 16 then some 140 else
  if o = 130 ∧ k = 18 then some 141 else
  if o = 130 ∧ k = 20 then some 142 else
  if o = 130 ∧ k = 26 then some 143 else
  if o = 130 ∧ k = 27 then some 144 else
  if o = 4 then (if 0 ≤ k ∧ k < 24 then some (5 + 3 * k.toNat) else none) else
  if o = 81 then (if 0 ≤ k ∧ k < 12 then some (82 + 4 * k.toNat) else none) else
  if 5 ≤ o ∧ o < 77 ∧ (o - 5) % 3 = 0 then (if k = 1 then some (o + 1) else if k = 3 then some (o + 2) else none) else
  if 82 ≤ o ∧ o < 130 ∧ (o - 82) % 4 = 0 then (if k = 1 then some (o + 1) else if k = 3 then some (o + 2) else if k = 5 then some (o + 3) else none) else none
def ly_r (b : Nat) : dz_Rf := fun q k => if q < b then none else (ly_rr (q - b) k).map (fun x => b + x)
theorem ly_at (b o : Nat) : ly_s b (b + o) = ly_k o := by unfold ly_s; rw [if_neg (by omega), Nat.add_sub_cancel_left]
theorem ly_rat (b o : Nat) (k : Int) : ly_r b (b + o) k = (ly_rr o k).map (fun x => b + x) := by unfold ly_r; rw [if_neg (by omega), Nat.add_sub_cancel_left]
theorem ly_DotBook (b : Nat) : ly_s b (b + 0) = some (.inr 7) := by rw [ly_at]; rfl
theorem ly_Typed (b : Nat) : ly_s b (b + 1) = some (.inr 0) := by rw [ly_at]; rfl
theorem ly_TypedRow (b : Nat) : ly_s b (b + 2) = some (.inl (1, 80)) := by rw [ly_at]; rfl
theorem ly_RuleList (b : Nat) : ly_s b (b + 3) = some (.inr 1) := by rw [ly_at]; rfl
theorem ly_RuleArr (b : Nat) : ly_s b (b + 4) = some (.inl (3, 24)) := by rw [ly_at]; rfl
theorem ly_Rule (b : Nat) {i : Nat} (h : i < 24) : ly_s b (b + (5 + 3 * i)) = some (.inr 2) := by
  rw [ly_at]; unfold ly_k
  repeat rw [if_neg (by omega)]
  rw [if_pos (by omega)]; repeat (first | rw [if_pos (by omega)] | rw [if_neg (by omega)])
theorem ly_Letters (b : Nat) {i : Nat} (h : i < 24) : ly_s b (b + (6 + 3 * i)) = some (.inl (1, 6)) := by
  rw [ly_at]; unfold ly_k
  repeat rw [if_neg (by omega)]
  rw [if_pos (by omega)]; repeat (first | rw [if_pos (by omega)] | rw [if_neg (by omega)])
theorem ly_RCells (b : Nat) {i : Nat} (h : i < 24) : ly_s b (b + (7 + 3 * i)) = some (.inl (0, 3)) := by
  rw [ly_at]; unfold ly_k
  repeat rw [if_neg (by omega)]
  rw [if_pos (by omega)]; repeat (first | rw [if_pos (by omega)] | rw [if_neg (by omega)])
theorem ly_Translator (b : Nat) : ly_s b (b + 77) = some (.inr 3) := by rw [ly_at]; rfl
theorem ly_Reader (b : Nat) : ly_s b (b + 78) = some (.inr 4) := by rw [ly_at]; rfl
theorem ly_ReaderRow (b : Nat) : ly_s b (b + 79) = some (.inl (1, 1200)) := by rw [ly_at]; rfl
theorem ly_Book (b : Nat) : ly_s b (b + 80) = some (.inr 5) := by rw [ly_at]; rfl
theorem ly_BlockArr (b : Nat) : ly_s b (b + 81) = some (.inl (4, 12)) := by rw [ly_at]; rfl
theorem ly_Block (b : Nat) {i : Nat} (h : i < 12) : ly_s b (b + (82 + 4 * i)) = some (.inr 6) := by
  rw [ly_at]; unfold ly_k
  repeat rw [if_neg (by omega)]
  rw [if_pos (by omega)]; repeat (first | rw [if_pos (by omega)] | rw [if_neg (by omega)])
theorem ly_BCells (b : Nat) {i : Nat} (h : i < 12) : ly_s b (b + (83 + 4 * i)) = some (.inl (0, 200)) := by
  rw [ly_at]; unfold ly_k
  repeat rw [if_neg (by omega)]
  rw [if_pos (by omega)]; repeat (first | rw [if_pos (by omega)] | rw [if_neg (by omega)])
theorem ly_Laid (b : Nat) {i : Nat} (h : i < 12) : ly_s b (b + (84 + 4 * i)) = some (.inl (0, 200)) := by
  rw [ly_at]; unfold ly_k
  repeat rw [if_neg (by omega)]
  rw [if_pos (by omega)]; repeat (first | rw [if_pos (by omega)] | rw [if_neg (by omega)])
theorem ly_LineBegins (b : Nat) {i : Nat} (h : i < 12) : ly_s b (b + (85 + 4 * i)) = some (.inl (0, 200)) := by
  rw [ly_at]; unfold ly_k
  repeat rw [if_neg (by omega)]
  rw [if_pos (by omega)]; repeat (first | rw [if_pos (by omega)] | rw [if_neg (by omega)])
theorem ly_Model (b : Nat) : ly_s b (b + 130) = some (.inr 8) := by rw [ly_at]; rfl
theorem ly_MTyped (b : Nat) : ly_s b (b + 131) = some (.inl (1, 80)) := by rw [ly_at]; rfl
theorem ly_MKinds (b : Nat) : ly_s b (b + 132) = some (.inl (0, 24)) := by rw [ly_at]; rfl
theorem ly_MLetterCount (b : Nat) : ly_s b (b + 133) = some (.inl (0, 24)) := by rw [ly_at]; rfl
theorem ly_MLetters (b : Nat) : ly_s b (b + 134) = some (.inl (1, 144)) := by rw [ly_at]; rfl
theorem ly_MCellCount (b : Nat) : ly_s b (b + 135) = some (.inl (0, 24)) := by rw [ly_at]; rfl
theorem ly_MRuleCells (b : Nat) : ly_s b (b + 136) = some (.inl (0, 72)) := by rw [ly_at]; rfl
theorem ly_MBlockKind (b : Nat) : ly_s b (b + 137) = some (.inl (0, 12)) := by rw [ly_at]; rfl
theorem ly_MSizes (b : Nat) : ly_s b (b + 138) = some (.inl (0, 12)) := by rw [ly_at]; rfl
theorem ly_MCells (b : Nat) : ly_s b (b + 139) = some (.inl (0, 2880)) := by rw [ly_at]; rfl
theorem ly_MOrigins (b : Nat) : ly_s b (b + 140) = some (.inl (0, 2880)) := by rw [ly_at]; rfl
theorem ly_MHeard (b : Nat) : ly_s b (b + 141) = some (.inl (1, 1500)) := by rw [ly_at]; rfl
theorem ly_MRow (b : Nat) : ly_s b (b + 142) = some (.inl (0, 40)) := by rw [ly_at]; rfl
theorem ly_MWanted (b : Nat) : ly_s b (b + 143) = some (.inl (0, 40)) := by rw [ly_at]; rfl
theorem ly_MPlaces (b : Nat) : ly_s b (b + 144) = some (.inl (0, 12)) := by rw [ly_at]; rfl
theorem ly_Out (b : Nat) : ly_s b (b + 145) = some (.inl (2, 1)) := by rw [ly_at]; rfl
theorem lr_DotBook_0 (b : Nat) : ly_r b (b + 0) 0 = some (b + 1) := by rw [ly_rat]; rfl
theorem lr_DotBook_1 (b : Nat) : ly_r b (b + 0) 1 = some (b + 3) := by rw [ly_rat]; rfl
theorem lr_DotBook_2 (b : Nat) : ly_r b (b + 0) 2 = some (b + 77) := by rw [ly_rat]; rfl
theorem lr_DotBook_3 (b : Nat) : ly_r b (b + 0) 3 = some (b + 78) := by rw [ly_rat]; rfl
theorem lr_DotBook_4 (b : Nat) : ly_r b (b + 0) 4 = some (b + 80) := by rw [ly_rat]; rfl
theorem lr_Typed_0 (b : Nat) : ly_r b (b + 1) 0 = some (b + 2) := by rw [ly_rat]; rfl
theorem lr_RuleList_0 (b : Nat) : ly_r b (b + 3) 0 = some (b + 4) := by rw [ly_rat]; rfl
theorem lr_Translator_0 (b : Nat) : ly_r b (b + 77) 0 = some (b + 1) := by rw [ly_rat]; rfl
theorem lr_Translator_1 (b : Nat) : ly_r b (b + 77) 1 = some (b + 3) := by rw [ly_rat]; rfl
theorem lr_Reader_0 (b : Nat) : ly_r b (b + 78) 0 = some (b + 3) := by rw [ly_rat]; rfl
theorem lr_Reader_1 (b : Nat) : ly_r b (b + 78) 1 = some (b + 79) := by rw [ly_rat]; rfl
theorem lr_Book_3 (b : Nat) : ly_r b (b + 80) 3 = some (b + 81) := by rw [ly_rat]; rfl
theorem lr_Model_4 (b : Nat) : ly_r b (b + 130) 4 = some (b + 131) := by rw [ly_rat]; rfl
theorem lr_Model_6 (b : Nat) : ly_r b (b + 130) 6 = some (b + 132) := by rw [ly_rat]; rfl
theorem lr_Model_7 (b : Nat) : ly_r b (b + 130) 7 = some (b + 133) := by rw [ly_rat]; rfl
theorem lr_Model_8 (b : Nat) : ly_r b (b + 130) 8 = some (b + 134) := by rw [ly_rat]; rfl
theorem lr_Model_9 (b : Nat) : ly_r b (b + 130) 9 = some (b + 135) := by rw [ly_rat]; rfl
theorem lr_Model_10 (b : Nat) : ly_r b (b + 130) 10 = some (b + 136) := by rw [ly_rat]; rfl
theorem lr_Model_13 (b : Nat) : ly_r b (b + 130) 13 = some (b + 137) := by rw [ly_rat]; rfl
theorem lr_Model_14 (b : Nat) : ly_r b (b + 130) 14 = some (b + 138) := by rw [ly_rat]; rfl
theorem lr_Model_15 (b : Nat) : ly_r b (b + 130) 15 = some (b + 139) := by rw [ly_rat]; rfl
theorem lr_Model_16 (b : Nat) : ly_r b (b + 130) 16 = some (b + 140) := by rw [ly_rat]; rfl
theorem lr_Model_18 (b : Nat) : ly_r b (b + 130) 18 = some (b + 141) := by rw [ly_rat]; rfl
theorem lr_Model_20 (b : Nat) : ly_r b (b + 130) 20 = some (b + 142) := by rw [ly_rat]; rfl
theorem lr_Model_26 (b : Nat) : ly_r b (b + 130) 26 = some (b + 143) := by rw [ly_rat]; rfl
theorem lr_Model_27 (b : Nat) : ly_r b (b + 130) 27 = some (b + 144) := by rw [ly_rat]; rfl
theorem lr_RuleArr (b : Nat) {i : Nat} (h : i < 24) : ly_r b (b + 4) (i : Int) = some (b + (5 + 3 * i)) := by
  rw [ly_rat]; unfold ly_rr; repeat rw [if_neg (by omega)]
  rw [if_pos rfl, if_pos (by omega)]; simp
theorem lr_BlockArr (b : Nat) {i : Nat} (h : i < 12) : ly_r b (b + 81) (i : Int) = some (b + (82 + 4 * i)) := by
  rw [ly_rat]; unfold ly_rr; repeat rw [if_neg (by omega)]
  rw [if_pos rfl, if_pos (by omega)]; simp
theorem lr_Rule_1 (b : Nat) {i : Nat} (h : i < 24) : ly_r b (b + (5 + 3 * i)) 1 = some (b + (6 + 3 * i)) := by
  rw [ly_rat]; unfold ly_rr; repeat rw [if_neg (by omega)]
  rw [if_pos (by omega)]; simp; omega
theorem lr_Rule_3 (b : Nat) {i : Nat} (h : i < 24) : ly_r b (b + (5 + 3 * i)) 3 = some (b + (7 + 3 * i)) := by
  rw [ly_rat]; unfold ly_rr; repeat rw [if_neg (by omega)]
  rw [if_pos (by omega)]; simp; omega
theorem lr_Block_1 (b : Nat) {i : Nat} (h : i < 12) : ly_r b (b + (82 + 4 * i)) 1 = some (b + (83 + 4 * i)) := by
  rw [ly_rat]; unfold ly_rr; repeat rw [if_neg (by omega)]
  rw [if_pos (by omega)]; simp; omega
theorem lr_Block_3 (b : Nat) {i : Nat} (h : i < 12) : ly_r b (b + (82 + 4 * i)) 3 = some (b + (84 + 4 * i)) := by
  rw [ly_rat]; unfold ly_rr; repeat rw [if_neg (by omega)]
  rw [if_pos (by omega)]; simp; omega
theorem lr_Block_5 (b : Nat) {i : Nat} (h : i < 12) : ly_r b (b + (82 + 4 * i)) 5 = some (b + (85 + 4 * i)) := by
  rw [ly_rat]; unfold ly_rr; repeat rw [if_neg (by omega)]
  rw [if_pos (by omega)]; simp; omega
/-- a contract of a method that makes no cell, over the layout -/
def ly_M (l : Launch) (D : va_G) (Dt : Nat → ClassId) (b sz : Nat) (y : MethodName) (cc : ByteArray) (nL : Nat) (ret : Option FieldType) (d : Nat) (av : List Value) (I : dz_Hp) (post : Option Value → dz_Hp → Prop) : Prop :=
  dz_C l D Dt y cc nL ret d 0 0 av sz (ly_s b) (ly_r b) I (fun v sz' sk' rf' I' => sz' = sz ∧ sk' = ly_s b ∧ rf' = ly_r b ∧ post v I')
/-- the judgement over the layout -/
def ly_V (κ : dz_Kx) (b sz : Nat) (I : dz_Hp) (pc : Nat) (ls : List (Nat × Value)) (st : List Value) : Prop := dz_V κ 0 0 sz (ly_s b) (ly_r b) I pc ls st
/-- what a walk over the layout carries -/
def ly_X (κ : dz_Kx) (l : Launch) (D : va_G) (Dt : Nat → ClassId) (b sz : Nat) (cc : ByteArray) (own : String) (nL : Nat) (ret : Option FieldType) (d : Nat) (post : Option Value → dz_Hp → Prop) : Prop :=
  dz_Am κ cc own ∧ dz_Dd κ l D Dt nL ∧ dz_Rt κ 0 0 (ly_s b) sz (fun v sz' sk' rf' I' => sz' = sz ∧ sk' = ly_s b ∧ rf' = ly_r b ∧ post v I') ret ∧ dz_Rm κ d 0 0
theorem ly_enter {l : Launch} {D : va_G} {Dt : Nat → ClassId} {b sz : Nat} {y : MethodName} {cc : ByteArray} {nL : Nat} {ret : Option FieldType} {d : Nat} {av : List Value} {I : dz_Hp} {post : Option Value → dz_Hp → Prop} (own : String) (hy : plainName y.cls = true) (ho : y.cls = own) (hlen : (lg_sl av).length ≤ nL) (hcat : ∀ q, q ∈ lv_args 0 av → q.2.category = 1)
    (h : ∀ κ : dz_Kx, ly_X κ l D Dt b sz cc own nL ret d post → ly_V κ b sz I 0 (lv_args 0 av) []) : ly_M l D Dt b sz y cc nL ret d av I post :=
  dz_enter own hy ho hlen hcat (fun κ am dd rt rm _ => h κ ⟨am, dd, rt, rm⟩)
section ly_rows
variable {κ : dz_Kx} {l : Launch} {D : va_G} {Dt : Nat → ClassId} {b sz : Nat} {cc : ByteArray} {own : String} {nL : Nat} {ret : Option FieldType} {d : Nat} {post : Option Value → dz_Hp → Prop} {I : dz_Hp} {pc : Nat} {ls : List (Nat × Value)} {st : List Value}
theorem ly_N (h : ly_X κ l D Dt b sz cc own nL ret d post) : dz_n κ = nL := by
  obtain ⟨p, l', e, R, s, m, args, below, meth, c, Q, D', Dt', A, nL'⟩ := κ
  exact h.2.1.2.2.2
theorem ly_vret (x : ly_X κ l D Dt b sz cc own nL none d post) (hd : decode cc pc = .ok (.return_, 1)) (hp : post none I) : ly_V κ b sz I pc ls [] := dz_vret x.1 x.2.2.1 hd ⟨rfl, rfl, rfl, hp⟩
theorem ly_iret {z : Int} {ty : FieldType} (x : ly_X κ l D Dt b sz cc own nL (some ty) d post) (hd : decode cc pc = .ok (.ireturn, 1)) (hn : narrow ty (.int (dz_i z)) = .int (dz_i z)) (hp : post (some (.int (dz_i z))) I) : ly_V κ b sz I pc ls [.int (dz_i z)] := dz_iret x.1 x.2.2.1 hn hd ⟨rfl, rfl, rfl, hp⟩
theorem ly_aret {v : Value} {nm : String} (x : ly_X κ l D Dt b sz cc own nL (some (.object nm)) d post) (hd : decode cc pc = .ok (.areturn, 1)) (hv : v = .null ∨ ∃ a, v = .ref a) (hp : post (some v) I) : ly_V κ b sz I pc ls [v] := dz_aret x.1 x.2.2.1 hv hd ⟨rfl, rfl, rfl, hp⟩
variable {y : MethodName} {bc : ByteArray} {nL' d' n index : Nat} {ret' : Option FieldType} {post' : Option Value → dz_Hp → Prop} {As rest : List Value} {a : Nat}
theorem ly_callV (x : ly_X κ l D Dt b sz cc own nL ret d post) (hg : dz_Cg own index y bc nL' ret' n 0) (hC : ly_M l D Dt b sz y bc nL' ret' d' (.ref a :: As) I post') (hd0 : d' + 1 ≤ d) {ci : Nat} (hq : ly_s b a = some (.inr ci)) {r : vw_C} (hci : vwCl[ci]? = some r) (hrc : r.1 = y.cls) (hn : As.length = n) {st0 : List Value} (hst0 : st0 = As.reverse ++ .ref a :: rest) (hst : (rest.map fun v => v.category).sum ≤ 8) (hd : decode cc pc = .ok (.invokevirtual index, 3))
    (kk : ∀ v I', post' v I' → ly_V κ b sz I' (pc + 3) ls (v.toList ++ rest)) : ly_V κ b sz I pc ls st0 :=
  dz_callV x.1 x.2.1 x.2.2.2 hg hC hd0 (Nat.le_refl _) (Nat.le_refl _) hq hci hrc hn hst0 hst hd (fun v sz' sk' rf' I' h => by obtain ⟨rfl, rfl, rfl, h⟩ := h; exact kk v I' h)
theorem ly_callS (x : ly_X κ l D Dt b sz cc own nL ret d post) (hg : dz_Cg own index y bc nL' ret' n 1) (hC : ly_M l D Dt b sz y bc nL' ret' d' As I post') (hd0 : d' + 1 ≤ d) (hn : As.length = n) {st0 : List Value} (hst0 : st0 = As.reverse ++ rest) (hst : (rest.map fun v => v.category).sum ≤ 8) (hd : decode cc pc = .ok (.invokestatic index, 3))
    (kk : ∀ v I', post' v I' → ly_V κ b sz I' (pc + 3) ls (v.toList ++ rest)) : ly_V κ b sz I pc ls st0 :=
  dz_callS x.1 x.2.1 x.2.2.2 hg hC hd0 (Nat.le_refl _) (Nat.le_refl _) hn hst0 hst hd (fun v sz' sk' rf' I' h => by obtain ⟨rfl, rfl, rfl, h⟩ := h; exact kk v I' h)
end ly_rows
end
section
/-! small helpers of the walks -/
theorem ly_cat : ∀ (av : List Value) (i : Nat), av.all (fun v => v.category == 1) = true → ∀ q, q ∈ lv_args i av → q.2.category = 1 := by
  intro av
  induction av with
  | nil => intro i _ q hq; simp [lv_args] at hq
  | cons v t ih =>
    intro i h q hq
    simp only [List.all_cons, Bool.and_eq_true] at h
    simp only [lv_args] at hq
    rcases List.mem_cons.mp hq with e | hq
    · subst e; simpa using h.1
    · exact ih _ h.2 q hq
end
section
/-! EXCEPTIONS: an object of a JDK exception class is made and thrown; it leaves the method; a caller's table catches it. -/
section dz_exc1
variable {p : Program} {l : Launch} {e : Env} {R : Room} {s : State} {m₀ : MethodId} {args : Array Value} {below : List Frame} {meth : Method} {c : Code} {T : State} {locs : List Loc} {cells slots : Nat}
/-- one row of a table that covers the place: its class is looked up, and it takes the object or not -/
theorem dz_row {Q : Handler → Pre} {E : CtlPost} {d : Bool} {acts : List Action} {u : State} {f : JFrame} {a : Addr} {x : ExceptionTableEntry} {t : List ExceptionTableEntry} {cT : ClassId} {cell : Cell} (hx : covers x f.pc = true) (h0 : x.catchType ≠ 0)
    (hl : u.vm.ClassLinks e.platform f.method.cls x.catchType cT) (hcell : u.heap[a]? = some cell) (hobj : ∀ k, cell.vm ≠ .statics k)
    (hk : ∃ k, u.vm.classes[cell.cls]? = some k) (hc : ∃ k, u.vm.classes[cT]? = some k) :
    (u.vm.assignable cell.cls cT = true → (wp (findHandler.go f a (x :: t)) Q E e d acts u ↔ Q (.found x.handlerPc) d acts (u.setVm (u.vm.noted f.method.cls x.catchType (.cls cT))))) ∧
    (u.vm.assignable cell.cls cT = false → (wp (findHandler.go f a (x :: t)) Q E e d acts u ↔ wp (findHandler.go f a t) Q E e d acts (u.setVm (u.vm.noted f.method.cls x.catchType (.cls cT))))) := by
  simp only [covers] at hx
  obtain ⟨r1, r2⟩ := (resolveClass_links e.toSetting hl).op (op := VmOp.resolveClass f.method.cls x.catchType) rfl
  have al : u.vm.Alike (u.vm.noted f.method.cls x.catchType (.cls cT)) := (Vm.Alike.refl u.vm).noted _ _ _
  obtain ⟨k1, hk1⟩ := hk
  obtain ⟨k2, hk2⟩ := hc
  obtain ⟨j1, hj1, -⟩ := al.2.2 _ _ hk1
  obtain ⟨j2, hj2, -⟩ := al.2.2 _ _ hk2
  refine ⟨fun hy => ?_, fun hy => ?_⟩
  · have hy' : (u.vm.noted f.method.cls x.catchType (.cls cT)).assignable cell.cls cT = true := by rw [al.assignable]; exact hy
    simp [findHandler.go, hx, h0, r1, r2, hcell, hobj, hj1, hj2, hy', VmOp.dirties, VmOp.acts]
  · have hy' : (u.vm.noted f.method.cls x.catchType (.cls cT)).assignable cell.cls cT = false := by rw [al.assignable]; exact hy
    simp [findHandler.go, hx, h0, r1, r2, hcell, hobj, hj1, hj2, hy', VmOp.dirties, VmOp.acts]
/-- a row's class by its word -/
theorem dz_rowL (X : Stand p l e R s m₀ args below meth c T locs cells slots) {own nm : String} (hown : s.vm.findClass own = some m₀.cls) {x : ExceptionTableEntry} (hlink : (Cond.classLink own x.catchType nm).before args s = true) {vm' : Vm} (hW : s.WarmedH vm') :
    ∃ cT, s.vm.findClass nm = some cT ∧ vm'.ClassLinks e.platform m₀.cls x.catchType cT ∧ (∃ k, vm'.classes[cT]? = some k) ∧ s.WarmedH (vm'.noted m₀.cls x.catchType (.cls cT)) := by
  have hpl : e.platform.magicAccessors = ({} : Platform).magicAccessors := by rw [X.admits.platform]
  obtain ⟨cT, h1, h2⟩ := Cond.classLink_spec hown hlink e.platform hpl
  obtain ⟨dk, _, _, kt, hd, _, _, _, _, hkt, _, hopen⟩ := h2.here
  obtain ⟨kt', hkt', -⟩ := hW.alike.2.2 _ _ hkt
  exact ⟨cT, h1, hW.classLinks h2, ⟨kt', hkt'⟩, hW.noted hd hopen (State.rightAt_cls h2)⟩
/-- caught by the row x, behind rows that don't take it -/
theorem dz_caught (X : Stand p l e R s m₀ args below meth c T locs cells slots) (a : Addr) {g : JFrame} (hg : g.method = m₀) {cell : Cell} (hcell : T.heap[a]? = some cell) (hobj : cell.vm = .none) {E own : String} (hE : s.vm.findClass E = some cell.cls) (hown : s.vm.findClass own = some m₀.cls)
    (pre : List ExceptionTableEntry) (x : ExceptionTableEntry) (suf : List ExceptionTableEntry) (hsplit : c.exceptionTable.toList = pre ++ x :: suf)
    (hpass : ∀ z ∈ pre, covers z g.pc = true ∧ z.catchType ≠ 0 ∧ ∃ nm : String, (Cond.classLink own z.catchType nm).before args s = true ∧ va_Nc E nm s)
    (hx : covers x g.pc = true) (h0 : x.catchType ≠ 0) {nm : String} (hlink : (Cond.classLink own x.catchType nm).before args s = true) (hcast : (Cond.castable E nm).before args s = true) :
    ∃ vm', Stand p l e R s m₀ args below meth c (T.setVm vm') locs cells slots ∧
      ∀ target, Steps p.tables e below ((T.setVm vm').setTop { g with pc := x.handlerPc, stack := [.ref a] }) target → Steps p.tables e below ((T.setTop g).pushFrame (.throwing a)) target := by
  subst hg
  have hns : ∀ k, cell.vm ≠ .statics k := fun k h => by rw [hobj] at h; cases h
  obtain ⟨kE, hkE, -⟩ := Vm.findClass_spec hE
  obtain ⟨cA, cB, hA, hB, hasg⟩ := Cond.castable_spec hcast
  cases Option.some.inj (hA.symm.trans hE)
  have key : ∀ (ps : List ExceptionTableEntry) (u : State), s.WarmedH u.vm → u.heap[a]? = some cell → (∀ z ∈ ps, covers z g.pc = true ∧ z.catchType ≠ 0 ∧ ∃ nm : String, (Cond.classLink own z.catchType nm).before args s = true ∧ va_Nc E nm s) →
      ∃ vm', s.WarmedH vm' ∧ ∀ (Q : Handler → Pre) (E9 : CtlPost) (d : Bool) (acts : List Action), wp (findHandler.go g a (ps ++ x :: suf)) Q E9 e d acts u ↔ Q (.found x.handlerPc) d acts (u.setVm vm') := by
    intro ps
    induction ps with
    | nil =>
      intro u hW hc9 _
      obtain ⟨cT, q1, q2, q3, q4⟩ := dz_rowL X hown hlink hW
      cases Option.some.inj (hB.symm.trans q1)
      obtain ⟨kE', hkE', -⟩ := hW.alike.2.2 _ _ hkE
      exact ⟨_, q4, fun Q E9 d acts => (dz_row hx h0 q2 hc9 hns ⟨kE', hkE'⟩ q3).1 (by rw [hW.alike.assignable]; exact hasg)⟩
    | cons z zs ih =>
      intro u hW hc9 hp
      obtain ⟨z1, z2, nz, z3, z4⟩ := hp z List.mem_cons_self
      obtain ⟨cT, q1, q2, q3, q4⟩ := dz_rowL X hown z3 hW
      obtain ⟨kE', hkE', -⟩ := hW.alike.2.2 _ _ hkE
      have hno : s.vm.assignable cell.cls cT = false := by
        obtain ⟨a8, b8, n1, n2, n3⟩ := z4
        cases Option.some.inj (n1.symm.trans hE)
        cases Option.some.inj (n2.symm.trans q1)
        exact n3
      obtain ⟨vm', w1, w2⟩ := ih (u.setVm (u.vm.noted g.method.cls z.catchType (.cls cT))) q4 hc9 (fun y hy => hp y (List.mem_cons_of_mem _ hy))
      refine ⟨vm', w1, fun Q E9 d acts => ?_⟩
      rw [List.cons_append, (dz_row z1 z2 q2 hc9 hns ⟨kE', hkE'⟩ q3).2 (by rw [hW.alike.assignable]; exact hno)]
      exact w2 Q E9 d acts
  obtain ⟨vm', hW', hq⟩ := key pre ((T.setTop g).pushFrame (.throwing a)) (by rw [throwing_vm]; exact X.warmed) (by rw [throwing_heap]; exact hcell) hpass
  refine ⟨vm', X.noted hW', fun target hrest => ?_⟩
  have hfind : ∀ (Q : Handler → Pre) (E9 : CtlPost) (d : Bool) (acts : List Action), wp (findHandler g a) Q E9 e d acts ((T.setTop g).pushFrame (.throwing a)) ↔ Q (.found x.handlerPc) d acts (((T.setTop g).pushFrame (.throwing a)).setVm vm') := by
    intro Q E9 d acts
    rw [Jvm.W.findHandler_eq (meth := meth) (code := c) (by rw [throwing_vm]; exact X.method') X.code, hsplit]
    exact hq Q E9 d acts
  obtain ⟨hgo, hw⟩ := X.here.throwing a
  refine Steps.head hgo hw ?_
  have hstep : (stepThrowing e ((T.setTop g).pushFrame (.throwing a)) a (.java g :: T.frames.tail)).Is ((((T.setTop g).pushFrame (.throwing a)).setVm vm').setFrames (.java { g with pc := x.handlerPc, stack := [.ref a] } :: T.frames.tail)) [] := by
    simp only [stepThrowing, searchFrame, vmDo]
    generalize hr : Sem.go _ e false [] ((T.setTop g).pushFrame (.throwing a)) = res
    obtain ⟨as, rfl, ha⟩ := Sem.eq_ok_of hr (a := Handler.found x.handlerPc) (s' := ((T.setTop g).pushFrame (.throwing a)).setVm vm') (acts' := []) (by simp [hfind _ _ _ _])
    exact ⟨rfl, ha⟩
  rw [stepThread_throwing (frames_entered X.here.top _), hstep.1]
  obtain ⟨g₁, hg⟩ := Option.isSome_iff_exists.mp X.here.top
  obtain ⟨r, hr⟩ := State.topJava?_eq_some.mp hg
  have hr' : (T.setVm vm').frames = .java g₁ :: r := hr
  rw [State.setTop_of_frames _ hr'] at hrest
  have e1 : ∀ (u : State) (F G : List Frame), ((u.setFrames F).setVm vm').setFrames G = (u.setVm vm').setFrames G := by
    intro u F G
    have h1 : (u.setFrames F).setVm vm' = (u.setVm vm').setFrames F := rfl
    rw [h1, State.setFrames_setFrames]
  rw [hr, List.tail_cons, State.pushFrame, e1, State.setTop_of_frames _ hr, e1]
  exact hrest
end dz_exc1
end
section
/-! the words of a throw, by class -/
def xc_IAE : String := "java/lang/IllegalArgumentException"
theorem dz_own_IAE {args : Array Value} {s : State} (hG : ∀ w ∈ dz_GW, w.before args s = true) (hN : ∀ w ∈ dz_NW, w.before args s = true) (h1 : (Cond.laysStatic Jvm.Bundle.tN "UNASSIGNED_STACK" Jvm.Bundle.steD).before args s = true) (h2 : (Cond.laysStatic Jvm.Bundle.tN "SUPPRESSED_SENTINEL" Jvm.Bundle.listD).before args s = true) (h3 : (Cond.isRef (.static Jvm.Bundle.tN "UNASSIGNED_STACK" Jvm.Bundle.steD)).before args s = true) (h4 : (Cond.isRef (.static Jvm.Bundle.tN "SUPPRESSED_SENTINEL" Jvm.Bundle.listD)).before args s = true) : ∀ a ∈ Jvm.Bundle.ownAtoms0 R_DotBook 61 xc_IAE ["java/lang/RuntimeException", "java/lang/Exception"], a.before args s = true :=
  List.forall_mem_cons.mpr ⟨hG _ (dz_g1 11 rfl rfl), List.forall_mem_cons.mpr ⟨hG _ (dz_g2 82 rfl rfl), List.forall_mem_cons.mpr ⟨hG _ (dz_g2 91 rfl rfl), List.forall_mem_cons.mpr ⟨hG _ (dz_g2 95 rfl rfl), List.forall_mem_cons.mpr ⟨hG _ (dz_g2 98 rfl rfl), List.forall_mem_cons.mpr ⟨hG _ (dz_g2 100 rfl rfl), List.forall_mem_cons.mpr ⟨hG _ (dz_g2 83 rfl rfl), List.forall_mem_cons.mpr ⟨hG _ (dz_g2 84 rfl rfl), List.forall_mem_cons.mpr ⟨hG _ (dz_g1 29 rfl rfl), List.forall_mem_cons.mpr ⟨hG _ (dz_g1 30 rfl rfl), List.forall_mem_cons.mpr ⟨hG _ (dz_g2 85 rfl rfl), List.forall_mem_cons.mpr ⟨hG _ (dz_g2 90 rfl rfl), List.forall_mem_cons.mpr ⟨hG _ (dz_g2 96 rfl rfl), List.forall_mem_cons.mpr ⟨hG _ (dz_g2 112 rfl rfl), List.forall_mem_cons.mpr ⟨hG _ (dz_g2 72 rfl rfl), List.forall_mem_cons.mpr ⟨hG _ (dz_g2 113 rfl rfl), List.forall_mem_cons.mpr ⟨hG _ (dz_g2 74 rfl rfl), List.forall_mem_cons.mpr ⟨hG _ (dz_g2 114 rfl rfl), List.forall_mem_cons.mpr ⟨hG _ (dz_g2 76 rfl rfl), List.forall_mem_cons.mpr ⟨hG _ (dz_g2 86 rfl rfl), List.forall_mem_cons.mpr ⟨h1, List.forall_mem_cons.mpr ⟨hG _ (dz_g2 88 rfl rfl), List.forall_mem_cons.mpr ⟨h2, List.forall_mem_cons.mpr ⟨hG _ (dz_g2 78 rfl rfl), List.forall_mem_cons.mpr ⟨hG _ (dz_g2 102 rfl rfl), List.forall_mem_cons.mpr ⟨hG _ (dz_g2 103 rfl rfl), List.forall_mem_cons.mpr ⟨hG _ (dz_g2 104 rfl rfl), List.forall_mem_cons.mpr ⟨hG _ (dz_g2 105 rfl rfl), List.forall_mem_cons.mpr ⟨hN _ (dz_n2 63 rfl rfl), List.forall_mem_cons.mpr ⟨hG _ (dz_g2 105 rfl rfl), List.forall_mem_cons.mpr ⟨hG _ (dz_g2 106 rfl rfl), List.forall_mem_cons.mpr ⟨hG _ (dz_g2 107 rfl rfl), List.forall_mem_cons.mpr ⟨hG _ (dz_g2 108 rfl rfl), List.forall_mem_cons.mpr ⟨hN _ (dz_n2 65 rfl rfl), List.forall_mem_cons.mpr ⟨hG _ (dz_g2 108 rfl rfl), List.forall_mem_cons.mpr ⟨hG _ (dz_g2 109 rfl rfl), List.forall_mem_cons.mpr ⟨hG _ (dz_g2 110 rfl rfl), List.forall_mem_cons.mpr ⟨hG _ (dz_g2 83 rfl rfl), List.forall_mem_cons.mpr ⟨hN _ (dz_n2 67 rfl rfl), List.forall_mem_cons.mpr ⟨hG _ (dz_g2 101 rfl rfl), List.forall_mem_cons.mpr ⟨hG _ (dz_g2 61 rfl rfl), List.forall_mem_cons.mpr ⟨hN _ (dz_n2 62 rfl rfl), List.forall_mem_cons.mpr ⟨hG _ (dz_g2 69 rfl rfl), List.forall_mem_cons.mpr ⟨hG _ (dz_g2 70 rfl rfl), List.forall_mem_cons.mpr ⟨hG _ (dz_g2 71 rfl rfl), List.forall_mem_cons.mpr ⟨hG _ (dz_g2 73 rfl rfl), List.forall_mem_cons.mpr ⟨hG _ (dz_g2 75 rfl rfl), List.forall_mem_cons.mpr ⟨hG _ (dz_g2 77 rfl rfl), List.forall_mem_cons.mpr ⟨h3, List.forall_mem_cons.mpr ⟨h4, List.forall_mem_cons.mpr ⟨hG _ (dz_g2 81 rfl rfl), List.forall_mem_cons.mpr ⟨hG _ (dz_g2 80 rfl rfl), List.forall_mem_cons.mpr ⟨hG _ (dz_g2 79 rfl rfl), fun _ h => absurd h List.not_mem_nil⟩⟩⟩⟩⟩⟩⟩⟩⟩⟩⟩⟩⟩⟩⟩⟩⟩⟩⟩⟩⟩⟩⟩⟩⟩⟩⟩⟩⟩⟩⟩⟩⟩⟩⟩⟩⟩⟩⟩⟩⟩⟩⟩⟩⟩⟩⟩⟩⟩⟩⟩⟩⟩
theorem dz_ownL_IAE : Cond.classLink R_DotBook 59 xc_IAE ∈ dz_GW := (dz_g2 60 rfl rfl)
theorem dz_ownI_IAE : Cond.instantiable xc_IAE 6 ∈ dz_GW := (dz_g2 61 rfl rfl)
theorem dz_ownN_IAE : Cond.initialized xc_IAE ∈ dz_GW := (dz_g1 14 rfl rfl)
def xc_ISE : String := "java/lang/IllegalStateException"
theorem dz_own_ISE {args : Array Value} {s : State} (hG : ∀ w ∈ dz_GW, w.before args s = true) (hN : ∀ w ∈ dz_NW, w.before args s = true) (h1 : (Cond.laysStatic Jvm.Bundle.tN "UNASSIGNED_STACK" Jvm.Bundle.steD).before args s = true) (h2 : (Cond.laysStatic Jvm.Bundle.tN "SUPPRESSED_SENTINEL" Jvm.Bundle.listD).before args s = true) (h3 : (Cond.isRef (.static Jvm.Bundle.tN "UNASSIGNED_STACK" Jvm.Bundle.steD)).before args s = true) (h4 : (Cond.isRef (.static Jvm.Bundle.tN "SUPPRESSED_SENTINEL" Jvm.Bundle.listD)).before args s = true) : ∀ a ∈ Jvm.Bundle.ownAtoms0 R_DotBook 68 xc_ISE ["java/lang/RuntimeException", "java/lang/Exception"], a.before args s = true :=
  List.forall_mem_cons.mpr ⟨hG _ (dz_g1 11 rfl rfl), List.forall_mem_cons.mpr ⟨hG _ (dz_g2 82 rfl rfl), List.forall_mem_cons.mpr ⟨hG _ (dz_g2 91 rfl rfl), List.forall_mem_cons.mpr ⟨hG _ (dz_g2 95 rfl rfl), List.forall_mem_cons.mpr ⟨hG _ (dz_g2 98 rfl rfl), List.forall_mem_cons.mpr ⟨hG _ (dz_g2 100 rfl rfl), List.forall_mem_cons.mpr ⟨hG _ (dz_g2 83 rfl rfl), List.forall_mem_cons.mpr ⟨hG _ (dz_g2 84 rfl rfl), List.forall_mem_cons.mpr ⟨hG _ (dz_g1 29 rfl rfl), List.forall_mem_cons.mpr ⟨hG _ (dz_g1 30 rfl rfl), List.forall_mem_cons.mpr ⟨hG _ (dz_g2 85 rfl rfl), List.forall_mem_cons.mpr ⟨hG _ (dz_g2 90 rfl rfl), List.forall_mem_cons.mpr ⟨hG _ (dz_g2 96 rfl rfl), List.forall_mem_cons.mpr ⟨hG _ (dz_g2 112 rfl rfl), List.forall_mem_cons.mpr ⟨hG _ (dz_g2 72 rfl rfl), List.forall_mem_cons.mpr ⟨hG _ (dz_g2 113 rfl rfl), List.forall_mem_cons.mpr ⟨hG _ (dz_g2 74 rfl rfl), List.forall_mem_cons.mpr ⟨hG _ (dz_g2 114 rfl rfl), List.forall_mem_cons.mpr ⟨hG _ (dz_g2 76 rfl rfl), List.forall_mem_cons.mpr ⟨hG _ (dz_g2 86 rfl rfl), List.forall_mem_cons.mpr ⟨h1, List.forall_mem_cons.mpr ⟨hG _ (dz_g2 88 rfl rfl), List.forall_mem_cons.mpr ⟨h2, List.forall_mem_cons.mpr ⟨hG _ (dz_g2 78 rfl rfl), List.forall_mem_cons.mpr ⟨hG _ (dz_g2 133 rfl rfl), List.forall_mem_cons.mpr ⟨hG _ (dz_g2 134 rfl rfl), List.forall_mem_cons.mpr ⟨hG _ (dz_g2 135 rfl rfl), List.forall_mem_cons.mpr ⟨hG _ (dz_g2 105 rfl rfl), List.forall_mem_cons.mpr ⟨hN _ (dz_n2 63 rfl rfl), List.forall_mem_cons.mpr ⟨hG _ (dz_g2 105 rfl rfl), List.forall_mem_cons.mpr ⟨hG _ (dz_g2 106 rfl rfl), List.forall_mem_cons.mpr ⟨hG _ (dz_g2 107 rfl rfl), List.forall_mem_cons.mpr ⟨hG _ (dz_g2 108 rfl rfl), List.forall_mem_cons.mpr ⟨hN _ (dz_n2 65 rfl rfl), List.forall_mem_cons.mpr ⟨hG _ (dz_g2 108 rfl rfl), List.forall_mem_cons.mpr ⟨hG _ (dz_g2 109 rfl rfl), List.forall_mem_cons.mpr ⟨hG _ (dz_g2 110 rfl rfl), List.forall_mem_cons.mpr ⟨hG _ (dz_g2 83 rfl rfl), List.forall_mem_cons.mpr ⟨hN _ (dz_n2 67 rfl rfl), List.forall_mem_cons.mpr ⟨hG _ (dz_g2 132 rfl rfl), List.forall_mem_cons.mpr ⟨hG _ (dz_g2 124 rfl rfl), List.forall_mem_cons.mpr ⟨hN _ (dz_n2 125 rfl rfl), List.forall_mem_cons.mpr ⟨hG _ (dz_g2 126 rfl rfl), List.forall_mem_cons.mpr ⟨hG _ (dz_g2 93 rfl rfl), List.forall_mem_cons.mpr ⟨hG _ (dz_g2 127 rfl rfl), List.forall_mem_cons.mpr ⟨hG _ (dz_g2 128 rfl rfl), List.forall_mem_cons.mpr ⟨hG _ (dz_g2 129 rfl rfl), List.forall_mem_cons.mpr ⟨hG _ (dz_g2 130 rfl rfl), List.forall_mem_cons.mpr ⟨h3, List.forall_mem_cons.mpr ⟨h4, List.forall_mem_cons.mpr ⟨hG _ (dz_g2 81 rfl rfl), List.forall_mem_cons.mpr ⟨hG _ (dz_g2 80 rfl rfl), List.forall_mem_cons.mpr ⟨hG _ (dz_g2 131 rfl rfl), fun _ h => absurd h List.not_mem_nil⟩⟩⟩⟩⟩⟩⟩⟩⟩⟩⟩⟩⟩⟩⟩⟩⟩⟩⟩⟩⟩⟩⟩⟩⟩⟩⟩⟩⟩⟩⟩⟩⟩⟩⟩⟩⟩⟩⟩⟩⟩⟩⟩⟩⟩⟩⟩⟩⟩⟩⟩⟩⟩
theorem dz_ownL_ISE : Cond.classLink R_DotBook 66 xc_ISE ∈ dz_GW := (dz_g2 123 rfl rfl)
theorem dz_ownI_ISE : Cond.instantiable xc_ISE 6 ∈ dz_GW := (dz_g2 124 rfl rfl)
theorem dz_ownN_ISE : Cond.initialized xc_ISE ∈ dz_GW := (dz_g1 15 rfl rfl)
def xc_IOB : String := "java/lang/IndexOutOfBoundsException"
theorem dz_own_IOB {args : Array Value} {s : State} (hG : ∀ w ∈ dz_GW, w.before args s = true) (hN : ∀ w ∈ dz_NW, w.before args s = true) (h1 : (Cond.laysStatic Jvm.Bundle.tN "UNASSIGNED_STACK" Jvm.Bundle.steD).before args s = true) (h2 : (Cond.laysStatic Jvm.Bundle.tN "SUPPRESSED_SENTINEL" Jvm.Bundle.listD).before args s = true) (h3 : (Cond.isRef (.static Jvm.Bundle.tN "UNASSIGNED_STACK" Jvm.Bundle.steD)).before args s = true) (h4 : (Cond.isRef (.static Jvm.Bundle.tN "SUPPRESSED_SENTINEL" Jvm.Bundle.listD)).before args s = true) : ∀ a ∈ Jvm.Bundle.ownAtoms0 R_DotBook 105 xc_IOB ["java/lang/RuntimeException", "java/lang/Exception"], a.before args s = true :=
  List.forall_mem_cons.mpr ⟨hG _ (dz_g1 11 rfl rfl), List.forall_mem_cons.mpr ⟨hG _ (dz_g2 82 rfl rfl), List.forall_mem_cons.mpr ⟨hG _ (dz_g2 91 rfl rfl), List.forall_mem_cons.mpr ⟨hG _ (dz_g2 95 rfl rfl), List.forall_mem_cons.mpr ⟨hG _ (dz_g2 98 rfl rfl), List.forall_mem_cons.mpr ⟨hG _ (dz_g2 100 rfl rfl), List.forall_mem_cons.mpr ⟨hG _ (dz_g2 83 rfl rfl), List.forall_mem_cons.mpr ⟨hG _ (dz_g2 84 rfl rfl), List.forall_mem_cons.mpr ⟨hG _ (dz_g1 29 rfl rfl), List.forall_mem_cons.mpr ⟨hG _ (dz_g1 30 rfl rfl), List.forall_mem_cons.mpr ⟨hG _ (dz_g2 85 rfl rfl), List.forall_mem_cons.mpr ⟨hG _ (dz_g2 90 rfl rfl), List.forall_mem_cons.mpr ⟨hG _ (dz_g2 96 rfl rfl), List.forall_mem_cons.mpr ⟨hG _ (dz_g2 112 rfl rfl), List.forall_mem_cons.mpr ⟨hG _ (dz_g2 72 rfl rfl), List.forall_mem_cons.mpr ⟨hG _ (dz_g2 113 rfl rfl), List.forall_mem_cons.mpr ⟨hG _ (dz_g2 74 rfl rfl), List.forall_mem_cons.mpr ⟨hG _ (dz_g2 114 rfl rfl), List.forall_mem_cons.mpr ⟨hG _ (dz_g2 76 rfl rfl), List.forall_mem_cons.mpr ⟨hG _ (dz_g2 86 rfl rfl), List.forall_mem_cons.mpr ⟨h1, List.forall_mem_cons.mpr ⟨hG _ (dz_g2 88 rfl rfl), List.forall_mem_cons.mpr ⟨h2, List.forall_mem_cons.mpr ⟨hG _ (dz_g2 78 rfl rfl), List.forall_mem_cons.mpr ⟨hG _ (dz_g3 186 rfl rfl), List.forall_mem_cons.mpr ⟨hG _ (dz_g3 187 rfl rfl), List.forall_mem_cons.mpr ⟨hG _ (dz_g3 188 rfl rfl), List.forall_mem_cons.mpr ⟨hG _ (dz_g2 105 rfl rfl), List.forall_mem_cons.mpr ⟨hN _ (dz_n2 63 rfl rfl), List.forall_mem_cons.mpr ⟨hG _ (dz_g2 105 rfl rfl), List.forall_mem_cons.mpr ⟨hG _ (dz_g2 106 rfl rfl), List.forall_mem_cons.mpr ⟨hG _ (dz_g2 107 rfl rfl), List.forall_mem_cons.mpr ⟨hG _ (dz_g2 108 rfl rfl), List.forall_mem_cons.mpr ⟨hN _ (dz_n2 65 rfl rfl), List.forall_mem_cons.mpr ⟨hG _ (dz_g2 108 rfl rfl), List.forall_mem_cons.mpr ⟨hG _ (dz_g2 109 rfl rfl), List.forall_mem_cons.mpr ⟨hG _ (dz_g2 110 rfl rfl), List.forall_mem_cons.mpr ⟨hG _ (dz_g2 83 rfl rfl), List.forall_mem_cons.mpr ⟨hN _ (dz_n2 67 rfl rfl), List.forall_mem_cons.mpr ⟨hG _ (dz_g3 185 rfl rfl), List.forall_mem_cons.mpr ⟨hG _ (dz_g3 177 rfl rfl), List.forall_mem_cons.mpr ⟨hN _ (dz_n3 178 rfl rfl), List.forall_mem_cons.mpr ⟨hG _ (dz_g3 179 rfl rfl), List.forall_mem_cons.mpr ⟨hG _ (dz_g2 94 rfl rfl), List.forall_mem_cons.mpr ⟨hG _ (dz_g3 180 rfl rfl), List.forall_mem_cons.mpr ⟨hG _ (dz_g3 181 rfl rfl), List.forall_mem_cons.mpr ⟨hG _ (dz_g3 182 rfl rfl), List.forall_mem_cons.mpr ⟨hG _ (dz_g3 183 rfl rfl), List.forall_mem_cons.mpr ⟨h3, List.forall_mem_cons.mpr ⟨h4, List.forall_mem_cons.mpr ⟨hG _ (dz_g2 81 rfl rfl), List.forall_mem_cons.mpr ⟨hG _ (dz_g2 80 rfl rfl), List.forall_mem_cons.mpr ⟨hG _ (dz_g3 184 rfl rfl), fun _ h => absurd h List.not_mem_nil⟩⟩⟩⟩⟩⟩⟩⟩⟩⟩⟩⟩⟩⟩⟩⟩⟩⟩⟩⟩⟩⟩⟩⟩⟩⟩⟩⟩⟩⟩⟩⟩⟩⟩⟩⟩⟩⟩⟩⟩⟩⟩⟩⟩⟩⟩⟩⟩⟩⟩⟩⟩⟩
theorem dz_ownL_IOB : Cond.classLink R_DotBook 103 xc_IOB ∈ dz_GW := (dz_g3 176 rfl rfl)
theorem dz_ownI_IOB : Cond.instantiable xc_IOB 6 ∈ dz_GW := (dz_g3 177 rfl rfl)
theorem dz_ownN_IOB : Cond.initialized xc_IOB ∈ dz_GW := (dz_g1 22 rfl rfl)
end
section
/-! THROWING: the walk from 'new X' to the method's end; contracts of methods that return or throw; their calls. -/
theorem dz_nw_use {w : Cond} (hw : w ∈ dz_NW) {U : State} {args : Array Value} (hs : va_Nw w U) : w.before args U = true := by
  have h2 := (List.mem_filter.mp hw).2
  unfold dz_ns at h2
  split at h2
  · exact va_Nw.use rfl hs
  · exact va_Nw.use rfl hs
  · exact va_Nw.use rfl hs
  · exact va_Nw.use rfl hs
  · cases h2
section dz_exc2
variable {p : Program} {l : Launch} {e : Env} {R : Room} {s : State} {m : MethodId} {args : Array Value} {below : List Frame} {meth : Method} {c : Code} {T : State} {locs : List Loc} {cells slots : Nat}
/-- the method as if it were called here: the heap of now is the heap of its start -/
abbrev dz_here (s T : State) (m : MethodId) (args : Array Value) (below : List Frame) : State := (T.setVm s.vm).setFrames (.invoking m args :: below)
theorem dz_rebase (X : Stand p l e R s m args below meth c T locs cells slots) {R' : Room} (r1 : R'.frames ≤ R.frames) (r2 : R'.locals ≤ R.locals) (r3 : cells + R'.cells ≤ R.cells) (r4 : slots + R'.slots ≤ R.slots) :
    Stand p l e R' (dz_here s T m args below) m args below meth c T [] 0 0 := by
  have top : (T.setVm s.vm).topJava?.isSome := X.here.top
  have hF : (dz_here s T m args below).frames = .invoking m args :: below := State.frames_setFrames _ (State.cur_lt_of_top top)
  obtain ⟨g0, hg0⟩ := Option.isSome_iff_exists.mp top
  obtain ⟨r, hr⟩ := State.topJava?_eq_some.mp hg0
  obtain ⟨th, hth, -⟩ := State.frames_cons hr
  have k1 : e.platform.stackLimits (T.setVm s.vm).me = e.platform.stackLimits s.me := X.limits
  have k2 : (T.setVm s.vm).me.stackBytes = s.me.stackBytes := X.bytes
  have k3 : (dz_here s T m args below).localsInUse = s.localsInUse := by
    rw [State.localsInUse_invoking hF (meth := meth) (c := c) X.method X.code, State.localsInUse_invoking X.frames X.method X.code]
  have k4 := X.heapSize
  have k5 := X.used
  have k6 : T.heap.toList.drop T.heap.size = [] := List.drop_eq_nil_of_le (Nat.le_of_eq Array.length_toList)
  refine ⟨X.admits, X.cas, X.clock, hF, ?_, X.hears, X.method, X.code, X.here, X.tail, X.warmed, by rw [State.stackLimits_setFrames]; rfl, by rw [State.stackBytes_setFrames]; rfl, ?_⟩
  · have h := X.room
    simp only [State.hasRoom, Bool.and_eq_true, decide_eq_true_eq] at h ⊢
    obtain ⟨⟨⟨⟨h1, h2, h3, h4, h5, h6⟩, h7⟩, h8⟩, h9⟩ := h
    rw [X.frames, List.length_cons] at h2 h3
    simp only [hF, k3, List.length_cons, State.stackLimits_setFrames, State.stackBytes_setFrames, k1, k2]
    refine ⟨⟨⟨⟨by omega, by omega, by omega, by omega, by omega, h6⟩, ?_⟩, ?_⟩, X.book⟩
    · show T.heap.size + R'.cells ≤ e.platform.maxCells
      omega
    · show T.slotsUsed + R'.slots ≤ e.platform.maxSlots
      omega
  · refine ⟨?_, Nat.le_refl _, Nat.le_refl _, ?_, ?_, fun a c9 h9 => ⟨c9, h9, rfl, rfl, fun _ _ => rfl⟩⟩
    · show T.setVm s.vm = { (dz_here s T m args below).setFrames (T.setVm s.vm).frames with heap := T.heap, slotsUsed := T.slotsUsed }
      rw [State.setFrames_setFrames, State.setFrames_self hth]
      rfl
    · show T.slotsUsed = T.slotsUsed + ((T.heap.toList.drop T.heap.size).map (·.slots.size)).sum
      rw [k6]; rfl
    · show ((T.heap.toList.drop T.heap.size).map (·.slots.size)).sum ≤ 0
      rw [k6]; exact Nat.le_refl _
theorem dz_unframe {u v : State} {F : List Frame} {L : List Loc} {k n : Nat} (h : (u.setFrames F).sameButNew v L k n) : u.sameButNew v L k n := by
  obtain ⟨h1, h2⟩ := h
  refine ⟨?_, h2⟩
  rw [State.setFrames_setFrames] at h1
  exact h1
theorem dz_kept {u U : State} {k n : Nat} (h : u.sameButNew ({ U with vm := u.vm } : State) [] k n) : u.heap.size ≤ U.heap.size ∧ U.heap.size ≤ u.heap.size + k ∧ ∀ q : Nat, q < u.heap.size → U.heap[q]? = u.heap[q]? := by
  obtain ⟨-, h2, h3, -, -, h6⟩ := h
  refine ⟨h2, h3, fun q hq => ?_⟩
  obtain ⟨c9, e1, e2, e3, e4⟩ := h6 q _ (Array.getElem?_eq_getElem hq)
  have hs : c9.slots = (u.heap[q]).slots := Array.ext_getElem? fun i => e4 i (fun hm => by cases hm)
  have h9 : c9 = u.heap[q] := by rw [hs] at e2; exact e2
  have e5 : U.heap[q]? = some c9 := e1
  rw [e5, h9, Array.getElem?_eq_getElem hq]
end dz_exc2
abbrev dz_Px : Type := String → Nat → dz_Sk → dz_Rf → dz_Hp → Prop
/-- a method's end: it has returned, or it has thrown an object of class E -/
def dz_QX (D : va_G) (Dt : Nat → ClassId) (sk : dz_Sk) (sz : Nat) (post : dz_Po) (xp : dz_Px) (mc ms : Nat) : Array Value → State → Outcome → State → Prop := fun a st oc t =>
  (dz_Q D Dt sk sz post a st oc t ∧ ∃ L, FrameEnd st oc t L mc ms ∧ ∀ q ∈ L, dz_A sk sz q.base) ∨
  ∃ (x : Addr) (E : String) (ce : Cell) (L : List Loc) (sz' : Nat) (sk' : dz_Sk) (rf' : dz_Rf) (I' : dz_Hp), oc = .threw x ∧ t.heap[x]? = some ce ∧ ce.vm = .none ∧ st.vm.findClass E = some ce.cls ∧ st.WarmedH t.vm ∧ st.sameButNew ({ t with vm := st.vm } : State) L mc ms ∧ (∀ z ∈ L, dz_A sk sz z.base) ∧
    xp E sz' sk' rf' I' ∧ t.heap.size = sz' ∧ dz_W D Dt sk' rf' I' t.heap ∧ (∀ q y, sk' q = some y → dz_A sk sz q) ∧ va_F (dz_A sk sz) st t
def dz_CX (l : Launch) (D : va_G) (Dt : Nat → ClassId) (y : MethodName) (cc : ByteArray) (nL : Nat) (ret : Option FieldType) (d mc ms : Nat) (av : List Value) (sz : Nat) (sk : dz_Sk) (rf : dz_Rf) (I : dz_Hp) (post : dz_Po) (xp : dz_Px) : Prop :=
  MetFree l y (headSpec (.code y cc nL ret :: dz_GW) (dz_rm d mc ms)) (va_Pc av (fun U => U.heap.size = sz ∧ dz_W D Dt sk rf I U.heap ∧ dz_K D Dt (dz_A sk sz) U)) (fun _ _ _ _ _ => True) (dz_QX D Dt sk sz post xp mc ms)
/-- what the end of a walk of such a method is -/
def dz_MX (below : List Frame) (D : va_G) (Dt : Nat → ClassId) (sk : dz_Sk) (sz : Nat) (post : dz_Po) (xp : dz_Px) (a : Array Value) (s : State) (mc ms : Nat) : State → Prop := fun t =>
  ∃ o, t.status = .running ∧ Ended t below o ∧ dz_QX D Dt sk sz post xp mc ms a s o t
/-- the same ambient with another end -/
def dz_qQ (κ : dz_Kx) (Q' : State → Prop) : dz_Kx := match κ with
  | (p, l, e, R, s, m, args, below, meth, c, _, D, Dt, A, nL) => (p, l, e, R, s, m, args, below, meth, c, Q', D, Dt, A, nL)
def dz_Rx (κ : dz_Kx) (mc ms : Nat) (sk : dz_Sk) (sz : Nat) (post : dz_Po) (xp : dz_Px) (ret : Option FieldType) : Prop := match κ with
  | (_, l, _, _, s, _, args, below, meth, c, Q, D, Dt, A, _) => Q = dz_MX below D Dt sk sz post xp args s mc ms ∧ A = dz_A sk sz ∧ meth.sig.returnType = ret ∧ c.exceptionTable.isEmpty = true ∧ l.stackTraces = false
theorem dz_enterX {l : Launch} (hl : l.stackTraces = false) {D : va_G} {Dt : Nat → ClassId} {y : MethodName} {cc : ByteArray} {nL : Nat} {ret : Option FieldType} {d mc ms : Nat} {av : List Value} {sz : Nat} {sk : dz_Sk} {rf : dz_Rf} {I : dz_Hp} {post : dz_Po} {xp : dz_Px} (own : String) (hy : plainName y.cls = true) (ho : y.cls = own) (hlen : (lg_sl av).length ≤ nL) (hcat : ∀ q, q ∈ lv_args 0 av → q.2.category = 1)
    (h : ∀ κ : dz_Kx, dz_Am κ cc own → dz_Dd κ l D Dt nL → dz_Rx κ mc ms sk sz post xp ret → dz_Rm κ d mc ms → dz_V κ 0 0 sz sk rf I 0 (lv_args 0 av) []) : dz_CX l D Dt y cc nL ret d mc ms av sz sk rf I post xp := by
  refine MetFree.of_bodyS (code := cc) (maxLocals := nL) (ret := ret) hy ?_ ?_
  · intro args s m h9 hn
    obtain ⟨meth, c, h1, h2, h3, h4, h5, h6, -, -⟩ := Cond.code_spec hn (atoms_spec (ws := .code y cc nL ret :: dz_GW) h9 _ List.mem_cons_self)
    exact ⟨meth, c, h1, h2, h3, h4, h5, h6⟩
  · intro p e s m args below meth c s₁ B hml hP _
    obtain ⟨rfl, hsz, hW, hK⟩ := hP
    have hts := atoms_spec (ws := .code y cc nL ret :: dz_GW) B.pre
    have hown : s.vm.findClass y.cls = some m.cls := findClass_of_methodNamed B.named
    rw [ho] at hown
    have hh0 : s₁.heap = s.heap := by rw [B.state]; rfl
    have hl9 := lv_entry av (n := nL) hlen
    have hno : c.exceptionTable.isEmpty = true := B.noHandlers (hts _ List.mem_cons_self)
    have K : W p l e (headSpec (.code y cc nL ret :: dz_GW) (dz_rm d mc ms)).room s m av.toArray below meth c s.heap [] 0 0 (dz_MX below D Dt sk sz post xp av.toArray s mc ms) (entryFrame m av.toArray nL) := by
      rw [lg_entry_eq]
      exact h (p, l, e, (headSpec (.code y cc nL ret :: dz_GW) (dz_rm d mc ms)).room, s, m, av.toArray, below, meth, c, dz_MX below D Dt sk sz post xp av.toArray s mc ms, D, Dt, dz_A sk sz, nL)
        ⟨B.exec, B.bytes, hml, hown, fun w hw => hts w (List.mem_cons_of_mem _ hw), hK, fun q hq => Or.inr (by omega), B.notSynchronized, dz_nonst hsz hW⟩ ⟨rfl, rfl, rfl, rfl⟩ ⟨rfl, rfl, B.returns, hno, hl⟩ ⟨Nat.le_refl _, Nat.le_refl _, Nat.le_refl _, Nat.le_refl _⟩
        s.heap [] _ hsz hW (fun q x hx => Or.inl ⟨x, hx⟩) va_S.rf hcat hl9
    obtain ⟨t, a1, o, b1, b2, b3⟩ := K s₁ hh0 (Stand.of_body B)
    exact ⟨t, o, a1, b1, b2, b3⟩
section dz_exc3
variable {κ : dz_Kx} {cc : ByteArray} {own : String} {cells slots sz : Nat} {sk : dz_Sk} {rf : dz_Rf} {I : dz_Hp} {pc : Nat} {ls : List (Nat × Value)} {st : List Value}
/-- a return in a method that may throw -/
theorem dz_retX {mc ms : Nat} {sk0 : dz_Sk} {sz0 : Nat} {post : dz_Po} {xp : dz_Px} {ret : Option FieldType} (rx : dz_Rx κ mc ms sk0 sz0 post xp ret) (am : dz_Am κ cc own)
    (k : ∀ κ' : dz_Kx, dz_Am κ' cc own → dz_Rt κ' mc ms sk0 sz0 post ret → dz_V κ' cells slots sz sk rf I pc ls st) : dz_V κ cells slots sz sk rf I pc ls st := by
  obtain ⟨p, l, e, R, s, m, args, below, meth, c, Q, D, Dt, A, nL⟩ := κ
  obtain ⟨r1, r2, r3, -, -⟩ := rx
  have h := k (p, l, e, R, s, m, args, below, meth, c, MQ below (dz_Q D Dt sk0 sz0 post) args s mc ms (dz_A sk0 sz0), D, Dt, A, nL) am ⟨rfl, r2, r3⟩
  intro H locs la hz hW hsA hS hc hl
  have h2 := h H locs la hz hW hsA hS hc hl
  intro T hT X
  obtain ⟨t, a1, o, b1, b2, b3, b4⟩ := h2 T hT X
  exact ⟨t, a1, by rw [r1]; exact ⟨o, b1, b2, Or.inl ⟨b3, b4⟩⟩⟩
end dz_exc3
end
section
/-! 'throw new X()' : from 'new' to the method's end -/
section dz_exc4
variable {κ : dz_Kx} {cc : ByteArray} {cells slots sz : Nat} {sk : dz_Sk} {rf : dz_Rf} {I : dz_Hp} {pc : Nat} {ls : List (Nat × Value)}
set_option maxHeartbeats 400000 in
theorem dz_thrown {mc ms d : Nat} {sk0 : dz_Sk} {sz0 : Nat} {post : dz_Po} {xp : dz_Px} {ret : Option FieldType} (cls : String) {ik ic : Nat} (am : dz_Am κ cc R_DotBook) (rx : dz_Rx κ mc ms sk0 sz0 post xp ret) (rm : dz_Rm κ d mc ms) (hd : 6 ≤ d)
    (hown0 : ∀ (args : Array Value) (u : State), (∀ w ∈ dz_GW, w.before args u = true) → (∀ w ∈ dz_NW, w.before args u = true) → (Cond.laysStatic Jvm.Bundle.tN "UNASSIGNED_STACK" Jvm.Bundle.steD).before args u = true → (Cond.laysStatic Jvm.Bundle.tN "SUPPRESSED_SENTINEL" Jvm.Bundle.listD).before args u = true → (Cond.isRef (.static Jvm.Bundle.tN "UNASSIGNED_STACK" Jvm.Bundle.steD)).before args u = true → (Cond.isRef (.static Jvm.Bundle.tN "SUPPRESSED_SENTINEL" Jvm.Bundle.listD)).before args u = true → ∀ a ∈ Jvm.Bundle.ownAtoms0 R_DotBook ic cls ["java/lang/RuntimeException", "java/lang/Exception"], a.before args u = true)
    (hfit : Jvm.Bundle.fit cls = true) (w1 : Cond.classLink R_DotBook ik cls ∈ dz_GW) (w2 : Cond.instantiable cls 6 ∈ dz_GW) (w3 : Cond.initialized cls ∈ dz_GW)
    (d0 : decode cc pc = .ok (.new ik, 3)) (d1 : decode cc (pc + 3) = .ok (.dup, 1)) (d2 : decode cc (pc + 4) = .ok (.invokespecial ic, 3)) (d3 : decode cc (pc + 7) = .ok (.athrow, 1)) (hcm : cells + 1 ≤ mc) (hsm : slots + 6 ≤ ms)
    (hp : xp cls (sz + 1) sk rf I) : dz_V κ cells slots sz sk rf I pc ls [] := by
  obtain ⟨p, l, e, R, s, m, args, below, meth, c, Q, D, Dt, A, nL⟩ := κ
  obtain ⟨hx, hb, hml, hown, hts, hK, hA, hlk, hns⟩ := am
  obtain ⟨r1, r2, r3, r4, r5⟩ := rx
  obtain ⟨m1, m2, m3, m4⟩ := rm
  subst r1
  intro H locs la hz hW hsA hS hc hl
  intro T hT X
  have hsh : ∀ q : Nat, q < s.heap.size → ¬ A q → T.heap[q]? = s.heap[q]? := fun q h1 h2 => by rw [hT]; exact hS.2.1 q h1 h2
  have X' := dz_rebase (R' := { frames := R.frames, cells := 1, slots := 6, locals := R.locals }) X (Nat.le_refl _) (Nat.le_refl _) (by show cells + 1 ≤ R.cells; omega) (by show slots + 6 ≤ R.slots; omega)
  have hvm : s.vm = (dz_here s T m args below).vm := rfl
  have hG : ∀ w ∈ dz_GW, w.before args (dz_here s T m args below) = true := fun w hw => word_at (s := s) (U := dz_here s T m args below) (State.WarmedH.refl s) (dz_good w hw) (hts w hw)
  have hN : ∀ w ∈ dz_NW, w.before args (dz_here s T m args below) = true := fun w hw => dz_nw_use hw (dz_nw_same hw hvm (hK.2.1 w hw))
  obtain ⟨-, -, -, -, -, -, -, -, -, s6, s7⟩ := hK.2.2.2.2.2
  have hSt1 := (dz_SL.moved (U := dz_here s T m args below) (Vm.Alike.refl s.vm) (s6.kept (H1 := T.heap) hsh)).words args
  have hSt2 := (dz_SL.moved (U := dz_here s T m args below) (Vm.Alike.refl s.vm) (s7.kept (H1 := T.heap) hsh)).words args
  have hat := hown0 args (dz_here s T m args below) hG hN hSt1.1 hSt2.1 hSt1.2 hSt2.2
  have htr : e.platform.stackTraces = false := by rw [X.admits.platform]; exact r5
  obtain ⟨cX, kX, f1, f2, -⟩ := Cond.instantiable_spec (hG _ w2)
  have hown9 : (dz_here s T m args below).vm.findClass R_DotBook = some m.cls := hown
  have K : W p l e { frames := R.frames, cells := 1, slots := 6, locals := R.locals } (dz_here s T m args below) m args below meth c T.heap [] 0 0 (fun U => ∃ (a : Addr) (ce : Cell), a = T.heap.size ∧ U.status = .running ∧ Ended U below (.threw a) ∧ (dz_here s T m args below).WarmedH U.vm ∧ (dz_here s T m args below).sameButNew ({ U with vm := (dz_here s T m args below).vm } : State) [] 1 6 ∧ U.heap[a]? = some ce ∧ ce.vm = .none ∧ s.vm.findClass cls = some ce.cls) (F0 m pc la []) := by
    refine W.newcK (s := dz_here s T m args below) (g := F0 m pc la []) (index := ik) hx hb (own := R_DotBook) (C := cls) (n := 6) hown9 (hG _ w1) (hG _ w2) (hG _ w3) rfl d0 (by show 0 + 1 ≤ 1; omega) (by show 0 + 6 ≤ 6; omega) f1 rfl fun H1 kC hkC e1 z1 o1 => ?_
    refine W.eq (g2 := F0 m (pc + 3) la [.ref T.heap.size]) rfl ?_
    refine lv_dup hx hb d1 rfl ?_
    intro T1 hT1 X1
    obtain ⟨U, u1, u2, u3, u4, u5, ce, u6, u7⟩ := X1.ctorThrow0 hx htr (own := R_DotBook) (cls := cls) (names := ["java/lang/RuntimeException", "java/lang/Exception"]) (ic := ic) hown9 hfit (by decide) hat (fun y hy => by cases hy) (a := T.heap.size) (cX := cX) (kX := kC) f1 hkC (by rw [hT1, e1]; rfl) (Nat.le_refl _)
      (g := F0 m (pc + 3 + 1) la [.ref T.heap.size, .ref T.heap.size]) rfl (by rw [hml]; exact hl.1) rfl rfl (rest := []) rfl (by rw [hb]; exact d2) (by rw [hb]; exact d3) (fun y hy => by
        have : c.exceptionTable.toList = [] := by
          have h9 : c.exceptionTable.size = 0 := by simpa [Array.isEmpty] using r4
          exact List.eq_nil_of_length_eq_zero (by rw [Array.length_toList]; exact h9)
        rw [this] at hy; cases hy) (by show 2 + 3 < R.frames; omega) (by show 2 * 0 + 1 + (13 * (2 + 1) + 41) ≤ R.locals; omega) hlk
    exact ⟨U, u1, T.heap.size, ce, rfl, u2, u3, u4, u5, u6, u7.vm, u7.cls⟩
  obtain ⟨U, k1, a, ce, rfl, k2, k3, k4, k5, k6, k7, k8⟩ := K T rfl X'
  obtain ⟨q1, q2, q3⟩ := dz_kept k5
  have q1 : T.heap.size ≤ U.heap.size := q1
  have q2 : U.heap.size ≤ T.heap.size + 1 := q2
  have q3 : ∀ q : Nat, q < T.heap.size → U.heap[q]? = T.heap[q]? := q3
  have q4 : T.heap.size < U.heap.size := (Array.getElem?_eq_some_iff.mp k6).1
  have hsm9 : s.sameButNew ({ U with vm := s.vm } : State) (locs ++ []) (cells + 1) (slots + 6) := X.same.trans (dz_unframe k5)
  rw [List.append_nil] at hsm9
  refine ⟨U, k1, .threw T.heap.size, k2, k3, Or.inr ⟨T.heap.size, cls, ce, locs, sz + 1, sk, rf, I, rfl, k6, k7, k8, k4, hsm9.mono hcm hsm, fun z hz => by rw [← r2]; exact hS.2.2 z hz, hp, by rw [hT] at q2 q4; omega, ?_, fun q y hy => by rw [← r2]; exact hsA q y hy, ?_, ?_⟩⟩
  · intro q y hy
    exact (hW q y hy).kept (H1 := U.heap) (by rw [q3 q (by rw [hT]; exact hW.lt hy), hT])
  · have := hS.1
    rw [hT] at q1
    omega
  · intro q h1 h2
    rw [← r2] at h2
    have h3 : q < T.heap.size := by rw [hT]; have := hS.1; omega
    rw [q3 q h3]
    exact hsh q h1 h2
end dz_exc4
end
section
/-! A call of a method that may throw, in a method whose table catches; methods with a table, and their calls. -/
def dz_s (κ : dz_Kx) : State := κ.2.2.2.2.1
def dz_Tb (κ : dz_Kx) (hh : List (Nat × Nat × Nat × Nat)) : Prop := match κ with
  | (_, _, _, _, _, _, _, _, _, c, _, _, _, _, _) => c.exceptionTable.toList.map (fun h => (h.startPc, h.endPc, h.handlerPc, h.catchType)) = hh
/-- how a table's rows take an object of class E thrown at pc -/
def dz_Hx (s : State) (own : String) (hh : List (Nat × Nat × Nat × Nat)) (pc : Nat) (E : String) (hpc : Nat) : Prop :=
  ∃ (pre : List (Nat × Nat × Nat × Nat)) (row : Nat × Nat × Nat × Nat) (suf : List (Nat × Nat × Nat × Nat)), hh = pre ++ row :: suf ∧ (∀ z ∈ pre, z.1 ≤ pc ∧ pc < z.2.1 ∧ z.2.2.2 ≠ 0 ∧ ∃ nm, Cond.classLink own z.2.2.2 nm ∈ dz_GW ∧ va_Nc E nm s) ∧
    row.1 ≤ pc ∧ pc < row.2.1 ∧ row.2.2.2 ≠ 0 ∧ (∃ nm, Cond.classLink own row.2.2.2 nm ∈ dz_GW ∧ Cond.castable E nm ∈ dz_NW) ∧ row.2.2.1 = hpc
section dz_exc5
variable {κ : dz_Kx} {cc : ByteArray} {own : String} {cells slots sz : Nat} {sk : dz_Sk} {rf : dz_Rf} {I : dz_Hp} {pc : Nat} {ls : List (Nat × Value)}
variable {l : Launch} {D : va_G} {Dt : Nat → ClassId} {y : MethodName} {bc : ByteArray} {nL nL0 d d0 m0 s0 mc ms n index : Nat} {ret : Option FieldType} {post : dz_Po} {xp : dz_Px} {As rest : List Value} {a : Nat} {hh : List (Nat × Nat × Nat × Nat)}
set_option maxHeartbeats 1000000 in
theorem dz_callX (am : dz_Am κ cc own) (hDd : dz_Dd κ l D Dt nL0) (hR : dz_Rm κ d0 m0 s0) (tb : dz_Tb κ hh) (hg : dz_Cg own index y bc nL ret n 0) (hC : dz_CX l D Dt y bc nL ret d mc ms (.ref a :: As) sz sk rf I post xp) (hd0 : d + 1 ≤ d0) (hcm : cells + mc ≤ m0) (hsm : slots + ms ≤ s0) {ci : Nat} (hq : sk a = some (.inr ci)) {r : vw_C} (hci : vwCl[ci]? = some r) (hrc : r.1 = y.cls) (hn : As.length = n) {st0 : List Value} (hst0 : st0 = As.reverse ++ .ref a :: rest) (hst : (rest.map fun v => v.category).sum ≤ 8) (hd : decode cc pc = .ok (.invokevirtual index, 3))
    (kk : ∀ v sz' sk' rf' I', post v sz' sk' rf' I' → dz_V κ (cells + mc) (slots + ms) sz' sk' rf' I' (pc + 3) ls (v.toList ++ rest))
    (kx : ∀ E x sz' sk' rf' I', xp E sz' sk' rf' I' → ∃ hpc, dz_Hx (dz_s κ) own hh pc E hpc ∧ dz_V κ (cells + mc) (slots + ms) sz' sk' rf' I' hpc ls [.ref x]) : dz_V κ cells slots sz sk rf I pc ls st0 := by
  obtain ⟨p, l', e, R, s, m, args, below, meth, c, Q, D', Dt', A, nL'⟩ := κ
  obtain ⟨hx, hb, hml, hown, hts, hK, hA, hlk, hns⟩ := am
  obtain ⟨rfl, rfl, rfl, rfl⟩ := hDd
  obtain ⟨r1, r2, r3, r4⟩ := hR
  obtain ⟨g1, g2, g3, g4, g5, g6, g7⟩ := hg
  intro H locs la hz hW hsA hS hc hl
  have hsub : ∀ q, dz_A sk sz q → A q := fun q hq => by
    rcases hq with ⟨x, hx⟩ | hq
    · exact hsA q x hx
    · exact hA q (by have := hS.1; omega)
  obtain ⟨hbl, hpc⟩ := dz_pre (As := .ref a :: As) hA hz hsA hS hK hW
  obtain ⟨cellB, b1, b2, b3⟩ := va_recv hK.1 (hW.one hq) hci (q0 := 0) (a := a) rfl
  rw [hrc] at b3
  have hy : y.cls ≠ "java/lang/invoke/MethodHandle" ∧ y.cls ≠ "java/lang/invoke/VarHandle" := ⟨g5.1, g5.2.1⟩
  have hlen : ∀ sig, parseMethodDescriptor y.desc = some sig → (As : List Value).length = sig.parameters.length := by
    intro sig h
    have h2 := g5.2.2
    rw [h] at h2
    rw [hn]
    exact (Option.some.inj h2).symm
  intro T hT X
  obtain ⟨mk, methM, hnamed, hmethM, hstM, habM⟩ := Cond.instanceMethod_spec (hts _ g6)
  obtain ⟨methM', cM, hmethM', hcM, -, hlM, -, -, -, hsigM⟩ := Cond.code_spec hnamed (hts _ g2)
  cases hmethM.symm.trans hmethM'
  obtain ⟨c2, rr2, mm2, q1, q2, q3, q4, kP, hkP, hkPi⟩ := Cond.selects_spec (hts _ g7)
  cases b3.symm.trans q1
  cases (State.methodFound?_of_named hnamed hy).symm.trans q2
  cases hnamed.symm.trans q3
  have hselP : selectMethod e.platform s.vm cellB.cls mk = .method mk := by rw [Launch.admits_selectMethod X.admits]; exact q4
  have hcB : T.heap[a]? = some cellB := by rw [hT]; exact b1
  obtain ⟨vm₁, X₁, hstep₁⟩ : ∃ vm₁, Stand p l' e R s m args below meth c (T.setVm vm₁) locs cells slots ∧ ∀ target, (∀ acts, Steps p.tables e below (doInvoke e ((T.setVm vm₁).setTop (F0 m pc la rest)) acts mk (Value.ref a :: As).toArray).1 target) → Steps p.tables e below (T.setTop (F0 m pc la st0)) target := by
    rcases g1 with g1 | ⟨host, g1⟩
    · obtain ⟨vm₁, x1, x2⟩ := X.invokevirtual hx hown (hts _ g1) hnamed hmethM hstM hkP hkPi hy (a := a) (cell := cellB) hcB (fun z h => by rw [h] at b2; cases b2) hselP hmethM habM hkP hkPi (g := F0 m pc la st0) rfl (argsL := As) (rest := rest) (hlen _ hsigM) hst0 (by rw [hb]; exact hd)
      exact ⟨vm₁, x1, fun target h => x2 target h⟩
    · obtain ⟨vm₁, x1, x2⟩ := X.invokevirtualNest hx hown (va_Nw.use rfl (hK.2.1 _ g1)) hnamed hmethM hstM hkP hkPi hy (a := a) (cell := cellB) hcB (fun z h => by rw [h] at b2; cases b2) hselP hmethM habM hkP hkPi (g := F0 m pc la st0) rfl (argsL := As) (rest := rest) (hlen _ hsigM) hst0 (by rw [hb]; exact hd)
      exact ⟨vm₁, x1, fun target h => x2 target h⟩
  have hnU : (T.setVm vm₁).methodNamed? y = some mk := X₁.named hnamed
  have hwU : ∀ w ∈ dz_GW, w.before (Value.ref a :: As).toArray (T.setVm vm₁) = true := fun w hw => word_at (s := s) (U := T.setVm vm₁) X₁.warmed (dz_good w hw) (hts w hw)
  obtain ⟨methY, cY, hmY, hcY, -, hlY, -, -, -, -⟩ := Cond.code_spec hnU (hwU _ g2)
  obtain ⟨kY, hkY, -⟩ := className_of_methodNamed hnU
  have hinitY : kY.init = .initialized := Cond.initialized_spec (findClass_of_methodNamed hnU) hkY (hwU _ g3)
  have hdg : decode c.code (F0 m pc la rest).pc = .ok (.invokevirtual index, 3) := by rw [hb]; exact hd
  have hroom : (dz_rm d mc ms).frames + 1 ≤ R.frames ∧ 8 + (nL + 11) + (dz_rm d mc ms).locals ≤ R.locals := by
    simp only [dz_rm]; omega
  have happ : (headSpec (.code y bc nL ret :: dz_GW) (dz_rm d mc ms)).appliesLoose y e.platform ((T.setVm vm₁).calling (F0 m pc la rest) mk (Value.ref a :: As).toArray) = true :=
    Spec.appliesLoose_calling (g := F0 m pc la rest) X₁.here hdg hnU hkY hinitY
      (X₁.room_calling (g := F0 m pc la rest) (R' := dz_rm d mc ms) (by rw [hml]; exact hl.1) hmY hcY hroom.1 (by rw [hlY]; show 2 * 0 + (rest.map fun v => v.category).sum + (nL + 11) + (dz_rm d mc ms).locals ≤ R.locals; have := hroom.2; omega) (by show cells + mc ≤ R.cells; omega) (by show slots + ms ≤ R.slots; omega))
      (atoms_intro fun w hw => by
        rcases List.mem_cons.mp hw with rfl | hw
        · exact hwU _ g2
        · exact hwU _ hw)
  have hfr : ((T.setVm vm₁).setTop (F0 m pc la rest)).frames = [.java (F0 m pc la rest)] ++ below := by rw [State.frames_setTop' _ X₁.here.top, X₁.tail]; rfl
  have hPre := hbl _ _ (F0 m pc la rest) mk (hpc (T.setVm vm₁) hT X₁.warmed)
  obtain ⟨o, s₂, hsteps, -, hend, hq9⟩ := Steps.callFree hC p X.admits X.cas X.clock (acts := []) hfr happ hPre trivial
  rw [hfr] at hend
  have hq9 : dz_QX D' Dt' sk sz post xp mc ms (Value.ref a :: As).toArray ((T.setVm vm₁).calling (F0 m pc la rest) mk (Value.ref a :: As).toArray) o s₂ := hq9
  have hcall : ((T.setVm vm₁).calling (F0 m pc la rest) mk (Value.ref a :: As).toArray).heap = H := hT
  have fin : ∀ (T' : State) (L : List Loc), (∀ z ∈ L, dz_A sk sz z.base) → va_F (dz_A sk sz) ((T.setVm vm₁).calling (F0 m pc la rest) mk (Value.ref a :: As).toArray) s₂ → s₂.heap = T'.heap → va_S A s.heap T'.heap (locs ++ L) := by
    intro T' L hL hF e1
    obtain ⟨f1, f2⟩ := hF
    rw [hcall, e1] at f1 f2
    refine ⟨Nat.le_trans hS.1 f1, fun q h1 h2 => ?_, fun z hz => ?_⟩
    · rw [f2 q (Nat.lt_of_lt_of_le h1 hS.1) (fun z => h2 (hsub q z))]
      exact hS.2.1 q h1 h2
    · rcases List.mem_append.mp hz with h | h
      · exact hS.2.2 z h
      · exact hsub _ (hL z h)
  rcases hq9 with ⟨⟨⟨v, sz', sk', rf', I', rfl, p1, p2, p3, p4⟩, p5⟩, L, ⟨-, p6, p7⟩, p8⟩ | ⟨x, E, ce, L, sz', sk', rf', I', rfl, p0, p01, p02, p6, p7, p8, p1, p2, p3, p4, p5⟩
  · obtain ⟨T', x1, x2, x3, x4⟩ := X₁.outOf (g := F0 m pc la rest) rfl hdg hend p6 p7
    have e1 : s₂.heap = T'.heap := by rw [x4]; rfl
    obtain ⟨t2, a1, a2⟩ := kk v sz' sk' rf' I' p1 T'.heap (locs ++ L) la (by rw [← e1]; exact p2) (by rw [← e1]; exact p3) (fun q x hx => hsub q (p4 q x hx)) (fin T' L p8 p5 e1) hc hl T' rfl x1
    refine ⟨t2, hstep₁ _ (fun acts => ?_), a2⟩
    rw [doInvoke_state]
    refine hsteps.trans ?_
    rw [x4]
    exact a1
  · obtain ⟨T', x1, x2, x3, x4⟩ := X₁.outOfThrown (g := F0 m pc la rest) rfl hend p6 p7
    have e1 : s₂.heap = T'.heap := by rw [x4]; rfl
    obtain ⟨hp9, ⟨pre, row, suf, w1, w2, w3, w4, w5, ⟨nm, w6, w7⟩, w8⟩, kV⟩ := kx E x sz' sk' rf' I' p1
    have tb : c.exceptionTable.toList.map (fun h => (h.startPc, h.endPc, h.handlerPc, h.catchType)) = hh := tb
    rw [w1] at tb
    obtain ⟨pre', rest', t1, t2, t3⟩ := List.map_eq_append_iff.mp tb
    obtain ⟨row', suf', t4, t5, t6⟩ := List.map_eq_cons_iff.mp t3
    subst t4
    have hE : s.vm.findClass E = some ce.cls := by
      have h9 : (T.setVm vm₁).vm.findClass E = some ce.cls := p02
      rw [X₁.warmed.alike.findClass] at h9
      exact h9
    obtain ⟨vm2, y1, y2⟩ := dz_caught x1 x (g := F0 m pc la rest) rfl (cell := ce) (by rw [← e1]; exact p0) p01 (E := E) (own := own) hE hown pre' row' suf' t1
      (fun z hz => by
        obtain ⟨v1, v2, v3, nm9, v4, v5⟩ := w2 _ (by rw [← t2]; exact List.mem_map.mpr ⟨z, hz, rfl⟩)
        refine ⟨?_, v3, nm9, hts _ v4, v5⟩
        simp only [covers, Bool.and_eq_true, decide_eq_true_eq]
        exact ⟨v1, v2⟩)
      (by
        simp only [covers, Bool.and_eq_true, decide_eq_true_eq]
        rw [← t5] at w3 w4
        exact ⟨w3, w4⟩) (by rw [← t5] at w5; exact w5) (nm := nm) (by rw [← t5] at w6; exact hts _ w6) (dz_nw_use w7 (hK.2.1 _ w7))
    obtain ⟨t9, a1, a2⟩ := kV T'.heap (locs ++ L) la (by rw [← e1]; exact p2) (by rw [← e1]; exact p3) (fun q x hx => hsub q (p4 q x hx)) (fin T' L p8 p5 e1) hc hl (T'.setVm vm2) rfl y1
    refine ⟨t9, hstep₁ _ (fun acts => ?_), a2⟩
    rw [doInvoke_state]
    refine hsteps.trans ?_
    rw [x4]
    refine y2 _ ?_
    rw [← t5] at w8
    rw [show row'.handlerPc = hp9 from w8]
    exact a1
end dz_exc5
end
section
/-! methods with a table: contracts, and static calls of them -/
def dz_CW (l : Launch) (D : va_G) (Dt : Nat → ClassId) (y : MethodName) (cc : ByteArray) (nL : Nat) (ret : Option FieldType) (hh : List (Nat × Nat × Nat × Nat)) (d mc ms : Nat) (av : List Value) (sz : Nat) (sk : dz_Sk) (rf : dz_Rf) (I : dz_Hp) (post : dz_Po) : Prop :=
  Met l y (.codeWith y cc nL ret hh :: dz_GW) (dz_rm d mc ms) (va_Pc av (fun U => U.heap.size = sz ∧ dz_W D Dt sk rf I U.heap ∧ dz_K D Dt (dz_A sk sz) U)) (dz_Q D Dt sk sz post) mc ms (dz_A sk sz)
theorem dz_enterW {l : Launch} {D : va_G} {Dt : Nat → ClassId} {y : MethodName} {cc : ByteArray} {nL : Nat} {ret : Option FieldType} {hh : List (Nat × Nat × Nat × Nat)} {d mc ms : Nat} {av : List Value} {sz : Nat} {sk : dz_Sk} {rf : dz_Rf} {I : dz_Hp} {post : dz_Po} (own : String) (hy : plainName y.cls = true) (ho : y.cls = own) (hlen : (lg_sl av).length ≤ nL) (hcat : ∀ q, q ∈ lv_args 0 av → q.2.category = 1)
    (h : ∀ κ : dz_Kx, dz_Am κ cc own → dz_Dd κ l D Dt nL → dz_Rt κ mc ms sk sz post ret → dz_Rm κ d mc ms → dz_Tb κ hh → dz_V κ 0 0 sz sk rf I 0 (lv_args 0 av) []) : dz_CW l D Dt y cc nL ret hh d mc ms av sz sk rf I post := by
  refine va_MetW (cc := cc) (maxL := nL) (ret := ret) (hh := hh) hy rfl ?_
  intro p e s m args below meth c s₁ B hml hv
  obtain ⟨rfl, hsz, hW, hK⟩ := hv
  have hts := atoms_spec (ws := .codeWith y cc nL ret hh :: dz_GW) B.pre
  have hown : s.vm.findClass y.cls = some m.cls := findClass_of_methodNamed B.named
  rw [ho] at hown
  have hl := lv_entry av (n := nL) hlen
  obtain ⟨m9, meth9, c9, n1, n2, n3, -, -, n6, -, -⟩ := Cond.codeWith_spec (hts _ List.mem_cons_self)
  cases Option.some.inj (n1.symm.trans B.named)
  cases Option.some.inj (n2.symm.trans B.method)
  cases Option.some.inj (n3.symm.trans (Stand.of_body B).code)
  rw [lg_entry_eq]
  exact h (p, l, e, (headSpec (.codeWith y cc nL ret hh :: dz_GW) (dz_rm d mc ms)).room, s, m, av.toArray, below, meth, c, MQ below (dz_Q D Dt sk sz post) av.toArray s mc ms (dz_A sk sz), D, Dt, dz_A sk sz, nL)
    ⟨B.exec, B.bytes, hml, hown, fun w hw => hts w (List.mem_cons_of_mem _ hw), hK, fun q hq => Or.inr (by omega), B.notSynchronized, dz_nonst hsz hW⟩ ⟨rfl, rfl, rfl, rfl⟩ ⟨rfl, rfl, B.returns⟩ ⟨Nat.le_refl _, Nat.le_refl _, Nat.le_refl _, Nat.le_refl _⟩ n6
    s.heap [] _ hsz hW (fun q x hx => Or.inl ⟨x, hx⟩) va_S.rf hcat hl
/-- the words of a static call of a method with a table -/
def dz_Cw (own : String) (index : Nat) (y : MethodName) (cc : ByteArray) (nL : Nat) (ret : Option FieldType) (hh : List (Nat × Nat × Nat × Nat)) (n : Nat) : Prop :=
  Cond.methodLink own index y ∈ dz_GW ∧ Cond.codeWith y cc nL ret hh ∈ dz_GW ∧ Cond.initialized y.cls ∈ dz_GW ∧ nL ≤ 17 ∧
  (y.cls ≠ "java/lang/invoke/MethodHandle" ∧ y.cls ≠ "java/lang/invoke/VarHandle" ∧ (parseMethodDescriptor y.desc).map (fun d => d.parameters.length) = some n) ∧ Cond.static y ∈ dz_GW
section dz_tab
variable {κ : dz_Kx} {cc : ByteArray} {own : String} {cells slots sz : Nat} {sk : dz_Sk} {rf : dz_Rf} {I : dz_Hp} {pc : Nat} {ls : List (Nat × Value)}
variable {l : Launch} {D : va_G} {Dt : Nat → ClassId} {y : MethodName} {bc : ByteArray} {nL nL0 d d0 m0 s0 mc ms n index : Nat} {ret : Option FieldType} {post : dz_Po} {As rest : List Value} {hh : List (Nat × Nat × Nat × Nat)}
theorem dz_callSW (am : dz_Am κ cc own) (hDd : dz_Dd κ l D Dt nL0) (hR : dz_Rm κ d0 m0 s0) (hg : dz_Cw own index y bc nL ret hh n) (hC : dz_CW l D Dt y bc nL ret hh d mc ms As sz sk rf I post) (hd0 : d + 1 ≤ d0) (hcm : cells + mc ≤ m0) (hsm : slots + ms ≤ s0) (hn : As.length = n) {st0 : List Value} (hst0 : st0 = As.reverse ++ rest) (hst : (rest.map fun v => v.category).sum ≤ 8) (hd : decode cc pc = .ok (.invokestatic index, 3))
    (kk : ∀ v sz' sk' rf' I', post v sz' sk' rf' I' → dz_V κ (cells + mc) (slots + ms) sz' sk' rf' I' (pc + 3) ls (v.toList ++ rest)) : dz_V κ cells slots sz sk rf I pc ls st0 := by
  obtain ⟨p, l', e, R, s, m, args, below, meth, c, Q, D', Dt', A, nL'⟩ := κ
  obtain ⟨hx, hb, hml, hown, hts, hK, hA, hlk, hns⟩ := am
  obtain ⟨rfl, rfl, rfl, rfl⟩ := hDd
  obtain ⟨r1, r2, r3, r4⟩ := hR
  obtain ⟨g1, g2, g3, g4, g5, g6⟩ := hg
  intro H locs la hz hW hsA hS hc hl
  obtain ⟨hbl, hpc⟩ := dz_pre (As := As) hA hz hsA hS hK hW
  have hroom : (dz_rm d mc ms).frames + 1 ≤ R.frames ∧ 8 + (nL + 11) + (dz_rm d mc ms).locals ≤ R.locals := by
    simp only [dz_rm]; omega
  have hws : ∀ w ∈ (.codeWith y bc nL ret hh :: dz_GW : List Cond), ∀ (a' : Array Value) (U : State), s.WarmedH U.vm → w.before a' U = true := by
    intro w hw a' U hWU
    rcases List.mem_cons.mp hw with rfl | hw
    · exact word_at hWU (dz_good _ g2) (hts _ g2)
    · exact word_at hWU (dz_good _ hw) (hts _ hw)
  have hBk : Back l' R p e below s args y 3 8 (PreOf R mc ms _) (PostOf (dz_Q D' Dt' sk sz post) mc ms (dz_A sk sz)) := va_backW (bytes := bc) (maxL := nL) (ret := ret) (hh := hh) hC hbl rfl rfl hroom.1 hroom.2 hws List.mem_cons_self (fun a' U hW9 => word_at hW9 (dz_good _ g3) (hts _ g3))
  have hlen : ∀ sig, parseMethodDescriptor y.desc = some sig → (As : List Value).length = sig.parameters.length := by
    intro sig h
    have h2 := g5.2.2
    rw [h] at h2
    rw [hn]
    exact (Option.some.inj h2).symm
  refine dz_after (post := post) (a := As.toArray) (mc := mc) (ms := ms) (rest := rest) ?_ hA hz hsA hS hc hl kk
  intro T hT X
  obtain ⟨mk, methM, cM, hnamed, hmethM, -, -, -, -, -, -, hsigM⟩ := Cond.codeWith_spec (hts _ g2)
  have hstatic : methM.isStatic = true := Cond.static_spec hnamed hmethM (hts _ g6)
  obtain ⟨kP, hkP, -⟩ := className_of_methodNamed hnamed
  have hinitP : kP.init = .initialized := Cond.initialized_spec (findClass_of_methodNamed hnamed) hkP (hts _ g3)
  obtain ⟨vm₁, X₁, hstep₁⟩ := X.invokestatic hx hown (hts _ g1) hnamed hmethM hstatic hkP hinitP ⟨g5.1, g5.2.1⟩ (g := F0 m pc la st0) rfl (argsL := As) (rest := rest) (hlen _ hsigM) hst0 (by rw [hb]; exact hd)
  obtain ⟨v, ⟨U', l2, c2, s2⟩, X', ⟨g', mk', t, L, e1, e2, hq, h1, hL, h2, h3⟩, hsteps⟩ := hBk m meth c ⟨T.setVm vm₁, locs, cells, slots⟩ (F0 m pc la rest) (.invokestatic index) mk As.toArray X₁ rfl (by rw [hml]; exact hl.1) (by rw [hb]; exact hd) (by show 2 * 0 + (rest.map fun v => v.category).sum ≤ 8; omega) (X₁.named hnamed) ⟨by show cells + mc ≤ R.cells; omega, by show slots + ms ≤ R.slots; omega, hpc (T.setVm vm₁) hT X₁.warmed⟩
  dsimp only [Pt.U, Pt.locs, Pt.cells, Pt.slots] at X' e1 e2 h1 h2 h3 hsteps
  subst h1; subst h2; subst h3
  exact ⟨v, (T.setVm vm₁).calling g' mk' As.toArray, t, U', L, hT, X', hL, e1, e2, hq, fun target h => hstep₁ _ fun acts => by rw [doInvoke_state]; exact hsteps.trans h⟩
end dz_tab
end
section
/-! rows on statics, texts, Math -/
def sp_lc (z : Int) : Int := ([1, 3, 9, 25, 17, 11, 27, 19, 10, 26, 5, 7, 13, 29, 21, 15, 31, 23, 14, 30, 37, 39, 58, 45, 61, 53] : List Int).getD z.toNat 0
def sp_mc (z : Int) : Int := ([50, 2, 6, 18, 38, 22, 36, 4] : List Int).getD z.toNat 0
/-- the bytes of the two texts -/
def sp_sb (i : Nat) (z : Int) : Int := ((if i = 0 then [119, 98, 109, 101, 97] else [46, 44, 59, 58, 63, 33, 45, 39]) : List Int).getD z.toNat 0
def sp_sl (i : Nat) : Nat := if i = 0 then 5 else 8
theorem sp_lc_ok : ∀ j : Nat, j < 26 → dz_lc j = dz_i (sp_lc (j : Int)) := by decide +kernel
theorem sp_mc_ok : ∀ j : Nat, j < 8 → dz_mc j = dz_i (sp_mc (j : Int)) := by decide +kernel
theorem sp_sb_ok : ∀ i : Nat, i < 2 → ∀ j : Nat, j < sp_sl i → (dz_sb.getD i []).getD j 0 = dz_i (sp_sb i (j : Int)) := by decide +kernel
theorem sp_sl_ok : ∀ i : Nat, i < 2 → dz_sl.getD i 0 = sp_sl i := by decide +kernel
def dz_D (κ : dz_Kx) : Nat → ClassId := κ.2.2.2.2.2.2.2.2.2.2.2.2.1
section dz_sta
variable {κ : dz_Kx} {cc : ByteArray} {own : String} {cells slots sz : Nat} {sk : dz_Sk} {rf : dz_Rf} {I : dz_Hp} {pc : Nat} {ls : List (Nat × Value)} {st : List Value}
theorem dz_getsL (am : dz_Am κ cc own) {index : Nat} (hf : Cond.fieldLink own index "DotBook$Code" "LETTER_CELLS" "[I" ∈ dz_GW) (hd : decode cc pc = .ok (.getstatic index, 3)) (kk : dz_V κ cells slots sz sk rf I (pc + 3) ls (.ref (dz_D κ 300) :: st)) : dz_V κ cells slots sz sk rf I pc ls st := by
  obtain ⟨p, l, e, R, s, m, args, below, meth, c, Q, D, Dt, A, nL⟩ := κ
  obtain ⟨hx, hb, hml, hown, hts, hK, hA, hlk, hns⟩ := am
  intro H locs la hz hW hsA hS hc hl
  exact va_gets hx hb hK.2.2.2.2.2.1 hS hown (hts _ hf) (fun _ h => h) hd (kk H locs la hz hW hsA hS hc hl)
theorem dz_getsM (am : dz_Am κ cc own) {index : Nat} (hf : Cond.fieldLink own index "DotBook$Code" "MARK_CELLS" "[I" ∈ dz_GW) (hd : decode cc pc = .ok (.getstatic index, 3)) (kk : dz_V κ cells slots sz sk rf I (pc + 3) ls (.ref (dz_D κ 301) :: st)) : dz_V κ cells slots sz sk rf I pc ls st := by
  obtain ⟨p, l, e, R, s, m, args, below, meth, c, Q, D, Dt, A, nL⟩ := κ
  obtain ⟨hx, hb, hml, hown, hts, hK, hA, hlk, hns⟩ := am
  intro H locs la hz hW hsA hS hc hl
  exact va_gets hx hb hK.2.2.2.2.2.2.2.1 hS hown (hts _ hf) (fun _ h => h) hd (kk H locs la hz hW hsA hS hc hl)
theorem dz_tldL (am : dz_Am κ cc own) {z : Int} (hi : 0 ≤ z ∧ z < 26) (hd : decode cc pc = .ok (.iaload, 1)) (kk : dz_V κ cells slots sz sk rf I (pc + 1) ls (.int (dz_i (sp_lc z)) :: st)) : dz_V κ cells slots sz sk rf I pc ls (.int (dz_i z) :: .ref (dz_D κ 300) :: st) := by
  obtain ⟨p, l, e, R, s, m, args, below, meth, c, Q, D, Dt, A, nL⟩ := κ
  obtain ⟨hx, hb, hml, hown, hts, hK, hA, hlk, hns⟩ := am
  intro H locs la hz hW hsA hS hc hl
  have e9 : (dz_i z).toNatClampNeg = z.toNat := dz_cl (by omega)
  have e8 : dz_lc (dz_i z).toNatClampNeg = dz_i (sp_lc z) := by
    rw [e9, sp_lc_ok _ (by omega), show ((z.toNat : Nat) : Int) = z by omega]
  exact va_ti (v := .int (dz_i (sp_lc z))) hx hb hK.2.2.2.2.2.2.1 hS (dz_in hi (by decide)) (by rw [e8]) hd (kk H locs la hz hW hsA hS hc hl)
theorem dz_tldM (am : dz_Am κ cc own) {z : Int} (hi : 0 ≤ z ∧ z < 8) (hd : decode cc pc = .ok (.iaload, 1)) (kk : dz_V κ cells slots sz sk rf I (pc + 1) ls (.int (dz_i (sp_mc z)) :: st)) : dz_V κ cells slots sz sk rf I pc ls (.int (dz_i z) :: .ref (dz_D κ 301) :: st) := by
  obtain ⟨p, l, e, R, s, m, args, below, meth, c, Q, D, Dt, A, nL⟩ := κ
  obtain ⟨hx, hb, hml, hown, hts, hK, hA, hlk, hns⟩ := am
  intro H locs la hz hW hsA hS hc hl
  have e9 : (dz_i z).toNatClampNeg = z.toNat := dz_cl (by omega)
  have e8 : dz_mc (dz_i z).toNatClampNeg = dz_i (sp_mc z) := by
    rw [e9, sp_mc_ok _ (by omega), show ((z.toNat : Nat) : Int) = z by omega]
  exact va_ti (v := .int (dz_i (sp_mc z))) hx hb hK.2.2.2.2.2.2.2.2.1 hS (dz_in hi (by decide)) (by rw [e8]) hd (kk H locs la hz hW hsA hS hc hl)
theorem dz_tlnL (am : dz_Am κ cc own) (hd : decode cc pc = .ok (.arraylength, 1)) (kk : dz_V κ cells slots sz sk rf I (pc + 1) ls (.int (dz_i 26) :: st)) : dz_V κ cells slots sz sk rf I pc ls (.ref (dz_D κ 300) :: st) := by
  obtain ⟨p, l, e, R, s, m, args, below, meth, c, Q, D, Dt, A, nL⟩ := κ
  obtain ⟨hx, hb, hml, hown, hts, hK, hA, hlk, hns⟩ := am
  intro H locs la hz hW hsA hS hc hl
  exact va_tlen (v := dz_i 26) hx hb hK.2.2.2.2.2.2.1 hS (by decide) hd (kk H locs la hz hW hsA hS hc hl)
theorem dz_tlnM (am : dz_Am κ cc own) (hd : decode cc pc = .ok (.arraylength, 1)) (kk : dz_V κ cells slots sz sk rf I (pc + 1) ls (.int (dz_i 8) :: st)) : dz_V κ cells slots sz sk rf I pc ls (.ref (dz_D κ 301) :: st) := by
  obtain ⟨p, l, e, R, s, m, args, below, meth, c, Q, D, Dt, A, nL⟩ := κ
  obtain ⟨hx, hb, hml, hown, hts, hK, hA, hlk, hns⟩ := am
  intro H locs la hz hW hsA hS hc hl
  exact va_tlen (v := dz_i 8) hx hb hK.2.2.2.2.2.2.2.2.1 hS (by decide) hd (kk H locs la hz hW hsA hS hc hl)
/-- the text i as a String's bytes -/
theorem dz_str (am : dz_Am κ cc own) {i : Nat} (hi : i < 2) : match κ with | (_, _, _, _, s, _, _, _, _, _, _, _, Dt, A, _) => va_OF "java/lang/String" "coder" "B" (.int 0) (Dt (100 + i)) A s s.heap ∧ va_OF "java/lang/String" "value" "[B" (.ref (Dt (200 + i))) (Dt (100 + i)) A s s.heap ∧ va_T .byte (Dt (200 + i)) (sp_sl i) (fun j => .int ((dz_sb.getD i []).getD j 0)) A s s.heap := by
  obtain ⟨p, l, e, R, s, m, args, below, meth, c, Q, D, Dt, A, nL⟩ := κ
  obtain ⟨hx, hb, hml, hown, hts, hK, hA, hlk, hns⟩ := am
  obtain ⟨-, h2, h3, h4⟩ := hK.2.2.2.2.2.2.2.2.2.1.1 i hi
  rw [sp_sl_ok i hi] at h4
  exact ⟨h2, h3, h4⟩
theorem dz_gfv (am : dz_Am κ cc own) {i index : Nat} (hi : i < 2) (hf : Cond.fieldLink own index "java/lang/String" "value" "[B" ∈ dz_GW) (hd : decode cc pc = .ok (.getfield index, 3)) (kk : dz_V κ cells slots sz sk rf I (pc + 3) ls (.ref (dz_D κ (200 + i)) :: st)) : dz_V κ cells slots sz sk rf I pc ls (.ref (dz_D κ (100 + i)) :: st) := by
  have h0 := dz_str am hi
  obtain ⟨p, l, e, R, s, m, args, below, meth, c, Q, D, Dt, A, nL⟩ := κ
  obtain ⟨hx, hb, hml, hown, hts, hK, hA, hlk, hns⟩ := am
  intro H locs la hz hW hsA hS hc hl
  exact vk_getf hx hb h0.2.1 hS hown (hts _ hf) (fun _ h => h) hd (kk H locs la hz hW hsA hS hc hl)
theorem dz_gfc (am : dz_Am κ cc own) {i index : Nat} (hi : i < 2) (hf : Cond.fieldLink own index "java/lang/String" "coder" "B" ∈ dz_GW) (hd : decode cc pc = .ok (.getfield index, 3)) (kk : dz_V κ cells slots sz sk rf I (pc + 3) ls (.int (dz_i 0) :: st)) : dz_V κ cells slots sz sk rf I pc ls (.ref (dz_D κ (100 + i)) :: st) := by
  have h0 := dz_str am hi
  obtain ⟨p, l, e, R, s, m, args, below, meth, c, Q, D, Dt, A, nL⟩ := κ
  obtain ⟨hx, hb, hml, hown, hts, hK, hA, hlk, hns⟩ := am
  intro H locs la hz hW hsA hS hc hl
  exact vk_getf hx hb h0.1 hS hown (hts _ hf) (fun _ h => h) hd (kk H locs la hz hW hsA hS hc hl)
theorem dz_getsC (am : dz_Am κ cc own) {index : Nat} (hf : Cond.fieldLink own index "java/lang/String" "COMPACT_STRINGS" "Z" ∈ dz_GW) (hd : decode cc pc = .ok (.getstatic index, 3)) (kk : dz_V κ cells slots sz sk rf I (pc + 3) ls (.int (dz_i 1) :: st)) : dz_V κ cells slots sz sk rf I pc ls st := by
  obtain ⟨p, l, e, R, s, m, args, below, meth, c, Q, D, Dt, A, nL⟩ := κ
  obtain ⟨hx, hb, hml, hown, hts, hK, hA, hlk, hns⟩ := am
  intro H locs la hz hW hsA hS hc hl
  exact va_gets (v := .int (dz_i 1)) hx hb hK.2.2.2.2.2.2.2.2.2.2.2.2.1 hS hown (hts _ hf) (fun _ h => h) hd (kk H locs la hz hW hsA hS hc hl)
theorem dz_tbl (am : dz_Am κ cc own) {i : Nat} (hi : i < 2) {z : Int} (hz0 : 0 ≤ z ∧ z < sp_sl i) (hd : decode cc pc = .ok (.baload, 1)) (kk : dz_V κ cells slots sz sk rf I (pc + 1) ls (.int (dz_i (sp_sb i z)) :: st)) : dz_V κ cells slots sz sk rf I pc ls (.int (dz_i z) :: .ref (dz_D κ (200 + i)) :: st) := by
  have h0 := dz_str am hi
  obtain ⟨p, l, e, R, s, m, args, below, meth, c, Q, D, Dt, A, nL⟩ := κ
  obtain ⟨hx, hb, hml, hown, hts, hK, hA, hlk, hns⟩ := am
  intro H locs la hz hW hsA hS hc hl
  have hb8 : sp_sl i < 9 := by unfold sp_sl; split <;> omega
  have e9 : (dz_i z).toNatClampNeg = z.toNat := dz_cl (by omega)
  have e8 : (dz_sb.getD i []).getD (dz_i z).toNatClampNeg 0 = dz_i (sp_sb i z) := by
    rw [e9, sp_sb_ok i hi _ (by omega), show ((z.toNat : Nat) : Int) = z by omega]
  exact va_tb (v := .int (dz_i (sp_sb i z))) hx hb h0.2.2 hS (dz_in hz0 (by omega)) (by rw [e8]) hd (kk H locs la hz hW hsA hS hc hl)
theorem dz_tbn (am : dz_Am κ cc own) {i : Nat} (hi : i < 2) (hd : decode cc pc = .ok (.arraylength, 1)) (kk : dz_V κ cells slots sz sk rf I (pc + 1) ls (.int (dz_i (sp_sl i : Nat)) :: st)) : dz_V κ cells slots sz sk rf I pc ls (.ref (dz_D κ (200 + i)) :: st) := by
  have h0 := dz_str am hi
  obtain ⟨p, l, e, R, s, m, args, below, meth, c, Q, D, Dt, A, nL⟩ := κ
  obtain ⟨hx, hb, hml, hown, hts, hK, hA, hlk, hns⟩ := am
  intro H locs la hz hW hsA hS hc hl
  exact va_tlen (v := dz_i (sp_sl i : Nat)) hx hb h0.2.2 hS (by unfold dz_i; rw [Int32.ofInt_eq_ofNat]) hd (kk H locs la hz hW hsA hS hc hl)
theorem dz_ldc0 (am : dz_Am κ cc "DotBook$Rule") (hd : decode cc pc = .ok (.ldc 19, 2)) (kk : dz_V κ cells slots sz sk rf I (pc + 2) ls (.ref (dz_D κ 100) :: st)) : dz_V κ cells slots sz sk rf I pc ls st := by
  obtain ⟨p, l, e, R, s, m, args, below, meth, c, Q, D, Dt, A, nL⟩ := κ
  obtain ⟨hx, hb, hml, hown, hts, hK, hA, hlk, hns⟩ := am
  intro H locs la hz hW hsA hS hc hl
  exact va_ldcS hx hb hown hK.2.2.2.2.2.2.2.2.2.2.1 hd (kk H locs la hz hW hsA hS hc hl)
theorem dz_ldc1 (am : dz_Am κ cc "DotBook$Code") (hd : decode cc pc = .ok (.ldc 24, 2)) (kk : dz_V κ cells slots sz sk rf I (pc + 2) ls (.ref (dz_D κ 101) :: st)) : dz_V κ cells slots sz sk rf I pc ls st := by
  obtain ⟨p, l, e, R, s, m, args, below, meth, c, Q, D, Dt, A, nL⟩ := κ
  obtain ⟨hx, hb, hml, hown, hts, hK, hA, hlk, hns⟩ := am
  intro H locs la hz hW hsA hS hc hl
  exact va_ldcS hx hb hown hK.2.2.2.2.2.2.2.2.2.2.2.1 hd (kk H locs la hz hW hsA hS hc hl)
end dz_sta
end
section
/-! JDK: names, decode rows, links; rows over the layout on statics and texts -/
def R_JStr : String := "java/lang/String"
def R_JL1 : String := "java/lang/StringLatin1"
def R_JPre : String := "jdk/internal/util/Preconditions"
def y_JStr_indexOf : MethodName := ⟨R_JStr, "indexOf", "(I)I"⟩
abbrev b_JStr_indexOf : ByteArray := prog_19_method_79_code
theorem d_JStr_indexOf_0 : decode b_JStr_indexOf 0 = .ok (.aload_n 0, 1) := by decide +kernel
theorem d_JStr_indexOf_1 : decode b_JStr_indexOf 1 = .ok (.iload_n 1, 1) := by decide +kernel
theorem d_JStr_indexOf_2 : decode b_JStr_indexOf 2 = .ok (.iconst 0, 1) := by decide +kernel
theorem d_JStr_indexOf_3 : decode b_JStr_indexOf 3 = .ok (.invokevirtual 633, 3) := by decide +kernel
theorem d_JStr_indexOf_6 : decode b_JStr_indexOf 6 = .ok (.ireturn, 1) := by decide +kernel
def y_JStr_indexOf2 : MethodName := ⟨R_JStr, "indexOf", "(II)I"⟩
abbrev b_JStr_indexOf2 : ByteArray := prog_19_method_80_code
theorem d_JStr_indexOf2_0 : decode b_JStr_indexOf2 0 = .ok (.aload_n 0, 1) := by decide +kernel
theorem d_JStr_indexOf2_1 : decode b_JStr_indexOf2 1 = .ok (.invokevirtual 492, 3) := by decide +kernel
theorem d_JStr_indexOf2_4 : decode b_JStr_indexOf2 4 = .ok (.ifCond .eq 19, 3) := by decide +kernel
theorem d_JStr_indexOf2_7 : decode b_JStr_indexOf2 7 = .ok (.aload_n 0, 1) := by decide +kernel
theorem d_JStr_indexOf2_8 : decode b_JStr_indexOf2 8 = .ok (.getfield 9, 3) := by decide +kernel
theorem d_JStr_indexOf2_11 : decode b_JStr_indexOf2 11 = .ok (.iload_n 1, 1) := by decide +kernel
theorem d_JStr_indexOf2_12 : decode b_JStr_indexOf2 12 = .ok (.iload_n 2, 1) := by decide +kernel
theorem d_JStr_indexOf2_13 : decode b_JStr_indexOf2 13 = .ok (.aload_n 0, 1) := by decide +kernel
theorem d_JStr_indexOf2_14 : decode b_JStr_indexOf2 14 = .ok (.invokevirtual 505, 3) := by decide +kernel
theorem d_JStr_indexOf2_17 : decode b_JStr_indexOf2 17 = .ok (.invokestatic 637, 3) := by decide +kernel
theorem d_JStr_indexOf2_20 : decode b_JStr_indexOf2 20 = .ok (.goto 16, 3) := by decide +kernel
theorem d_JStr_indexOf2_23 : decode b_JStr_indexOf2 23 = .ok (.aload_n 0, 1) := by decide +kernel
theorem d_JStr_indexOf2_24 : decode b_JStr_indexOf2 24 = .ok (.getfield 9, 3) := by decide +kernel
theorem d_JStr_indexOf2_27 : decode b_JStr_indexOf2 27 = .ok (.iload_n 1, 1) := by decide +kernel
theorem d_JStr_indexOf2_28 : decode b_JStr_indexOf2 28 = .ok (.iload_n 2, 1) := by decide +kernel
theorem d_JStr_indexOf2_29 : decode b_JStr_indexOf2 29 = .ok (.aload_n 0, 1) := by decide +kernel
theorem d_JStr_indexOf2_30 : decode b_JStr_indexOf2 30 = .ok (.invokevirtual 505, 3) := by decide +kernel
theorem d_JStr_indexOf2_33 : decode b_JStr_indexOf2 33 = .ok (.invokestatic 640, 3) := by decide +kernel
theorem d_JStr_indexOf2_36 : decode b_JStr_indexOf2 36 = .ok (.ireturn, 1) := by decide +kernel
def y_JStr_isLatin1 : MethodName := ⟨R_JStr, "isLatin1", "()Z"⟩
abbrev b_JStr_isLatin1 : ByteArray := prog_19_method_154_code
theorem d_JStr_isLatin1_0 : decode b_JStr_isLatin1 0 = .ok (.getstatic 38, 3) := by decide +kernel
theorem d_JStr_isLatin1_3 : decode b_JStr_isLatin1 3 = .ok (.ifCond .eq 14, 3) := by decide +kernel
theorem d_JStr_isLatin1_6 : decode b_JStr_isLatin1 6 = .ok (.aload_n 0, 1) := by decide +kernel
theorem d_JStr_isLatin1_7 : decode b_JStr_isLatin1 7 = .ok (.getfield 15, 3) := by decide +kernel
theorem d_JStr_isLatin1_10 : decode b_JStr_isLatin1 10 = .ok (.ifCond .ne 7, 3) := by decide +kernel
theorem d_JStr_isLatin1_13 : decode b_JStr_isLatin1 13 = .ok (.iconst 1, 1) := by decide +kernel
theorem d_JStr_isLatin1_14 : decode b_JStr_isLatin1 14 = .ok (.goto 4, 3) := by decide +kernel
theorem d_JStr_isLatin1_17 : decode b_JStr_isLatin1 17 = .ok (.iconst 0, 1) := by decide +kernel
theorem d_JStr_isLatin1_18 : decode b_JStr_isLatin1 18 = .ok (.ireturn, 1) := by decide +kernel
def y_JStr_length : MethodName := ⟨R_JStr, "length", "()I"⟩
abbrev b_JStr_length : ByteArray := prog_19_method_54_code
theorem d_JStr_length_0 : decode b_JStr_length 0 = .ok (.aload_n 0, 1) := by decide +kernel
theorem d_JStr_length_1 : decode b_JStr_length 1 = .ok (.getfield 9, 3) := by decide +kernel
theorem d_JStr_length_4 : decode b_JStr_length 4 = .ok (.arraylength, 1) := by decide +kernel
theorem d_JStr_length_5 : decode b_JStr_length 5 = .ok (.aload_n 0, 1) := by decide +kernel
theorem d_JStr_length_6 : decode b_JStr_length 6 = .ok (.invokevirtual 335, 3) := by decide +kernel
theorem d_JStr_length_9 : decode b_JStr_length 9 = .ok (.ishr, 1) := by decide +kernel
theorem d_JStr_length_10 : decode b_JStr_length 10 = .ok (.ireturn, 1) := by decide +kernel
def y_JStr_coder : MethodName := ⟨R_JStr, "coder", "()B"⟩
abbrev b_JStr_coder : ByteArray := prog_19_method_152_code
theorem d_JStr_coder_0 : decode b_JStr_coder 0 = .ok (.getstatic 38, 3) := by decide +kernel
theorem d_JStr_coder_3 : decode b_JStr_coder 3 = .ok (.ifCond .eq 10, 3) := by decide +kernel
theorem d_JStr_coder_6 : decode b_JStr_coder 6 = .ok (.aload_n 0, 1) := by decide +kernel
theorem d_JStr_coder_7 : decode b_JStr_coder 7 = .ok (.getfield 15, 3) := by decide +kernel
theorem d_JStr_coder_10 : decode b_JStr_coder 10 = .ok (.goto 4, 3) := by decide +kernel
theorem d_JStr_coder_13 : decode b_JStr_coder 13 = .ok (.iconst 1, 1) := by decide +kernel
theorem d_JStr_coder_14 : decode b_JStr_coder 14 = .ok (.ireturn, 1) := by decide +kernel
def y_JStr_charAt : MethodName := ⟨R_JStr, "charAt", "(I)C"⟩
abbrev b_JStr_charAt : ByteArray := prog_19_method_56_code
theorem d_JStr_charAt_0 : decode b_JStr_charAt 0 = .ok (.aload_n 0, 1) := by decide +kernel
theorem d_JStr_charAt_1 : decode b_JStr_charAt 1 = .ok (.invokevirtual 492, 3) := by decide +kernel
theorem d_JStr_charAt_4 : decode b_JStr_charAt 4 = .ok (.ifCond .eq 12, 3) := by decide +kernel
theorem d_JStr_charAt_7 : decode b_JStr_charAt 7 = .ok (.aload_n 0, 1) := by decide +kernel
theorem d_JStr_charAt_8 : decode b_JStr_charAt 8 = .ok (.getfield 9, 3) := by decide +kernel
theorem d_JStr_charAt_11 : decode b_JStr_charAt 11 = .ok (.iload_n 1, 1) := by decide +kernel
theorem d_JStr_charAt_12 : decode b_JStr_charAt 12 = .ok (.invokestatic 495, 3) := by decide +kernel
theorem d_JStr_charAt_15 : decode b_JStr_charAt 15 = .ok (.ireturn, 1) := by decide +kernel
theorem d_JStr_charAt_16 : decode b_JStr_charAt 16 = .ok (.aload_n 0, 1) := by decide +kernel
theorem d_JStr_charAt_17 : decode b_JStr_charAt 17 = .ok (.getfield 9, 3) := by decide +kernel
theorem d_JStr_charAt_20 : decode b_JStr_charAt 20 = .ok (.iload_n 1, 1) := by decide +kernel
theorem d_JStr_charAt_21 : decode b_JStr_charAt 21 = .ok (.invokestatic 498, 3) := by decide +kernel
theorem d_JStr_charAt_24 : decode b_JStr_charAt 24 = .ok (.ireturn, 1) := by decide +kernel
def y_JStr_checkIndex : MethodName := ⟨R_JStr, "checkIndex", "(II)V"⟩
abbrev b_JStr_checkIndex : ByteArray := prog_19_method_155_code
theorem d_JStr_checkIndex_0 : decode b_JStr_checkIndex 0 = .ok (.iload_n 0, 1) := by decide +kernel
theorem d_JStr_checkIndex_1 : decode b_JStr_checkIndex 1 = .ok (.iload_n 1, 1) := by decide +kernel
theorem d_JStr_checkIndex_2 : decode b_JStr_checkIndex 2 = .ok (.getstatic 1053, 3) := by decide +kernel
theorem d_JStr_checkIndex_5 : decode b_JStr_checkIndex 5 = .ok (.invokestatic 1059, 3) := by decide +kernel
theorem d_JStr_checkIndex_8 : decode b_JStr_checkIndex 8 = .ok (.pop, 1) := by decide +kernel
theorem d_JStr_checkIndex_9 : decode b_JStr_checkIndex 9 = .ok (.return_, 1) := by decide +kernel
def y_JL1_indexOf : MethodName := ⟨R_JL1, "indexOf", "([BIII)I"⟩
abbrev b_JL1_indexOf : ByteArray := prog_20_method_22_code
theorem d_JL1_indexOf_0 : decode b_JL1_indexOf 0 = .ok (.iload_n 1, 1) := by decide +kernel
theorem d_JL1_indexOf_1 : decode b_JL1_indexOf 1 = .ok (.invokestatic 88, 3) := by decide +kernel
theorem d_JL1_indexOf_4 : decode b_JL1_indexOf 4 = .ok (.ifCond .ne 5, 3) := by decide +kernel
theorem d_JL1_indexOf_7 : decode b_JL1_indexOf 7 = .ok (.iconst (-1), 1) := by decide +kernel
theorem d_JL1_indexOf_8 : decode b_JL1_indexOf 8 = .ok (.ireturn, 1) := by decide +kernel
theorem d_JL1_indexOf_9 : decode b_JL1_indexOf 9 = .ok (.iload_n 2, 1) := by decide +kernel
theorem d_JL1_indexOf_10 : decode b_JL1_indexOf 10 = .ok (.iconst 0, 1) := by decide +kernel
theorem d_JL1_indexOf_11 : decode b_JL1_indexOf 11 = .ok (.invokestatic 92, 3) := by decide +kernel
theorem d_JL1_indexOf_14 : decode b_JL1_indexOf 14 = .ok (.istore_n 2, 1) := by decide +kernel
theorem d_JL1_indexOf_15 : decode b_JL1_indexOf 15 = .ok (.iload_n 3, 1) := by decide +kernel
theorem d_JL1_indexOf_16 : decode b_JL1_indexOf 16 = .ok (.aload_n 0, 1) := by decide +kernel
theorem d_JL1_indexOf_17 : decode b_JL1_indexOf 17 = .ok (.arraylength, 1) := by decide +kernel
theorem d_JL1_indexOf_18 : decode b_JL1_indexOf 18 = .ok (.invokestatic 38, 3) := by decide +kernel
theorem d_JL1_indexOf_21 : decode b_JL1_indexOf 21 = .ok (.istore_n 3, 1) := by decide +kernel
theorem d_JL1_indexOf_22 : decode b_JL1_indexOf 22 = .ok (.iload_n 2, 1) := by decide +kernel
theorem d_JL1_indexOf_23 : decode b_JL1_indexOf 23 = .ok (.iload_n 3, 1) := by decide +kernel
theorem d_JL1_indexOf_24 : decode b_JL1_indexOf 24 = .ok (.if_icmp .lt 5, 3) := by decide +kernel
theorem d_JL1_indexOf_27 : decode b_JL1_indexOf 27 = .ok (.iconst (-1), 1) := by decide +kernel
theorem d_JL1_indexOf_28 : decode b_JL1_indexOf 28 = .ok (.ireturn, 1) := by decide +kernel
theorem d_JL1_indexOf_29 : decode b_JL1_indexOf 29 = .ok (.aload_n 0, 1) := by decide +kernel
theorem d_JL1_indexOf_30 : decode b_JL1_indexOf 30 = .ok (.iload_n 1, 1) := by decide +kernel
theorem d_JL1_indexOf_31 : decode b_JL1_indexOf 31 = .ok (.iload_n 2, 1) := by decide +kernel
theorem d_JL1_indexOf_32 : decode b_JL1_indexOf 32 = .ok (.iload_n 3, 1) := by decide +kernel
theorem d_JL1_indexOf_33 : decode b_JL1_indexOf 33 = .ok (.invokestatic 95, 3) := by decide +kernel
theorem d_JL1_indexOf_36 : decode b_JL1_indexOf 36 = .ok (.ireturn, 1) := by decide +kernel
def y_JL1_canEncode : MethodName := ⟨R_JL1, "canEncode", "(I)Z"⟩
abbrev b_JL1_canEncode : ByteArray := prog_20_method_4_code
theorem d_JL1_canEncode_0 : decode b_JL1_canEncode 0 = .ok (.iload_n 0, 1) := by decide +kernel
theorem d_JL1_canEncode_1 : decode b_JL1_canEncode 1 = .ok (.ifCond .lt 14, 3) := by decide +kernel
theorem d_JL1_canEncode_4 : decode b_JL1_canEncode 4 = .ok (.iload_n 0, 1) := by decide +kernel
theorem d_JL1_canEncode_5 : decode b_JL1_canEncode 5 = .ok (.sipush 255, 3) := by decide +kernel
theorem d_JL1_canEncode_8 : decode b_JL1_canEncode 8 = .ok (.if_icmp .gt 7, 3) := by decide +kernel
theorem d_JL1_canEncode_11 : decode b_JL1_canEncode 11 = .ok (.iconst 1, 1) := by decide +kernel
theorem d_JL1_canEncode_12 : decode b_JL1_canEncode 12 = .ok (.goto 4, 3) := by decide +kernel
theorem d_JL1_canEncode_15 : decode b_JL1_canEncode 15 = .ok (.iconst 0, 1) := by decide +kernel
theorem d_JL1_canEncode_16 : decode b_JL1_canEncode 16 = .ok (.ireturn, 1) := by decide +kernel
def y_JL1_indexOfChar : MethodName := ⟨R_JL1, "indexOfChar", "([BIII)I"⟩
abbrev b_JL1_indexOfChar : ByteArray := prog_20_method_23_code
theorem d_JL1_indexOfChar_0 : decode b_JL1_indexOfChar 0 = .ok (.iload_n 1, 1) := by decide +kernel
theorem d_JL1_indexOfChar_1 : decode b_JL1_indexOfChar 1 = .ok (.i2b, 1) := by decide +kernel
theorem d_JL1_indexOfChar_2 : decode b_JL1_indexOfChar 2 = .ok (.istore 4, 2) := by decide +kernel
theorem d_JL1_indexOfChar_4 : decode b_JL1_indexOfChar 4 = .ok (.iload_n 2, 1) := by decide +kernel
theorem d_JL1_indexOfChar_5 : decode b_JL1_indexOfChar 5 = .ok (.istore 5, 2) := by decide +kernel
theorem d_JL1_indexOfChar_7 : decode b_JL1_indexOfChar 7 = .ok (.iload 5, 2) := by decide +kernel
theorem d_JL1_indexOfChar_9 : decode b_JL1_indexOfChar 9 = .ok (.iload_n 3, 1) := by decide +kernel
theorem d_JL1_indexOfChar_10 : decode b_JL1_indexOfChar 10 = .ok (.if_icmp .ge 21, 3) := by decide +kernel
theorem d_JL1_indexOfChar_13 : decode b_JL1_indexOfChar 13 = .ok (.aload_n 0, 1) := by decide +kernel
theorem d_JL1_indexOfChar_14 : decode b_JL1_indexOfChar 14 = .ok (.iload 5, 2) := by decide +kernel
theorem d_JL1_indexOfChar_16 : decode b_JL1_indexOfChar 16 = .ok (.baload, 1) := by decide +kernel
theorem d_JL1_indexOfChar_17 : decode b_JL1_indexOfChar 17 = .ok (.iload 4, 2) := by decide +kernel
theorem d_JL1_indexOfChar_19 : decode b_JL1_indexOfChar 19 = .ok (.if_icmp .ne 6, 3) := by decide +kernel
theorem d_JL1_indexOfChar_22 : decode b_JL1_indexOfChar 22 = .ok (.iload 5, 2) := by decide +kernel
theorem d_JL1_indexOfChar_24 : decode b_JL1_indexOfChar 24 = .ok (.ireturn, 1) := by decide +kernel
theorem d_JL1_indexOfChar_25 : decode b_JL1_indexOfChar 25 = .ok (.iinc 5 1, 3) := by decide +kernel
theorem d_JL1_indexOfChar_28 : decode b_JL1_indexOfChar 28 = .ok (.goto (-21), 3) := by decide +kernel
theorem d_JL1_indexOfChar_31 : decode b_JL1_indexOfChar 31 = .ok (.iconst (-1), 1) := by decide +kernel
theorem d_JL1_indexOfChar_32 : decode b_JL1_indexOfChar 32 = .ok (.ireturn, 1) := by decide +kernel
def y_JL1_charAt : MethodName := ⟨R_JL1, "charAt", "([BI)C"⟩
abbrev b_JL1_charAt : ByteArray := prog_20_method_2_code
theorem d_JL1_charAt_0 : decode b_JL1_charAt 0 = .ok (.iload_n 1, 1) := by decide +kernel
theorem d_JL1_charAt_1 : decode b_JL1_charAt 1 = .ok (.aload_n 0, 1) := by decide +kernel
theorem d_JL1_charAt_2 : decode b_JL1_charAt 2 = .ok (.arraylength, 1) := by decide +kernel
theorem d_JL1_charAt_3 : decode b_JL1_charAt 3 = .ok (.invokestatic 9, 3) := by decide +kernel
theorem d_JL1_charAt_6 : decode b_JL1_charAt 6 = .ok (.aload_n 0, 1) := by decide +kernel
theorem d_JL1_charAt_7 : decode b_JL1_charAt 7 = .ok (.iload_n 1, 1) := by decide +kernel
theorem d_JL1_charAt_8 : decode b_JL1_charAt 8 = .ok (.baload, 1) := by decide +kernel
theorem d_JL1_charAt_9 : decode b_JL1_charAt 9 = .ok (.sipush 255, 3) := by decide +kernel
theorem d_JL1_charAt_12 : decode b_JL1_charAt 12 = .ok (.iand, 1) := by decide +kernel
theorem d_JL1_charAt_13 : decode b_JL1_charAt 13 = .ok (.i2c, 1) := by decide +kernel
theorem d_JL1_charAt_14 : decode b_JL1_charAt 14 = .ok (.ireturn, 1) := by decide +kernel
def y_JPre_checkIndex : MethodName := ⟨R_JPre, "checkIndex", "(IILjava/util/function/BiFunction;)I"⟩
abbrev b_JPre_checkIndex : ByteArray := prog_23_method_11_code
theorem d_JPre_checkIndex_0 : decode b_JPre_checkIndex 0 = .ok (.iload_n 0, 1) := by decide +kernel
theorem d_JPre_checkIndex_1 : decode b_JPre_checkIndex 1 = .ok (.ifCond .lt 8, 3) := by decide +kernel
theorem d_JPre_checkIndex_4 : decode b_JPre_checkIndex 4 = .ok (.iload_n 0, 1) := by decide +kernel
theorem d_JPre_checkIndex_5 : decode b_JPre_checkIndex 5 = .ok (.iload_n 1, 1) := by decide +kernel
theorem d_JPre_checkIndex_6 : decode b_JPre_checkIndex 6 = .ok (.if_icmp .lt 10, 3) := by decide +kernel
theorem d_JPre_checkIndex_9 : decode b_JPre_checkIndex 9 = .ok (.aload_n 2, 1) := by decide +kernel
theorem d_JPre_checkIndex_10 : decode b_JPre_checkIndex 10 = .ok (.iload_n 0, 1) := by decide +kernel
theorem d_JPre_checkIndex_11 : decode b_JPre_checkIndex 11 = .ok (.iload_n 1, 1) := by decide +kernel
theorem d_JPre_checkIndex_12 : decode b_JPre_checkIndex 12 = .ok (.invokestatic 95, 3) := by decide +kernel
theorem d_JPre_checkIndex_15 : decode b_JPre_checkIndex 15 = .ok (.athrow, 1) := by decide +kernel
theorem d_JPre_checkIndex_16 : decode b_JPre_checkIndex 16 = .ok (.iload_n 0, 1) := by decide +kernel
theorem d_JPre_checkIndex_17 : decode b_JPre_checkIndex 17 = .ok (.ireturn, 1) := by decide +kernel
theorem cl_Rule_27 : dz_Cg R_Rule 27 y_JStr_indexOf b_JStr_indexOf 2 (some .int) 1 0 := ⟨Or.inl (dz_g2 167 rfl rfl), (dz_g2 170 rfl rfl), (dz_g1 16 rfl rfl), by decide, ⟨by decide, by decide, by decide +kernel⟩, ⟨(dz_g2 168 rfl rfl), (dz_g2 169 rfl rfl)⟩⟩
theorem cl_JStr_633 : dz_Cg R_JStr 633 y_JStr_indexOf2 b_JStr_indexOf2 3 (some .int) 2 0 := ⟨Or.inl (dz_g2 171 rfl rfl), (dz_g2 174 rfl rfl), (dz_g1 16 rfl rfl), by decide, ⟨by decide, by decide, by decide +kernel⟩, ⟨(dz_g2 172 rfl rfl), (dz_g2 173 rfl rfl)⟩⟩
theorem cl_JStr_492 : dz_Cg R_JStr 492 y_JStr_isLatin1 b_JStr_isLatin1 1 (some .boolean) 0 0 := ⟨Or.inl (dz_g2 175 rfl rfl), (dz_g2 178 rfl rfl), (dz_g1 16 rfl rfl), by decide, ⟨by decide, by decide, by decide +kernel⟩, ⟨(dz_g2 176 rfl rfl), (dz_g2 177 rfl rfl)⟩⟩
theorem cl_JStr_505 : dz_Cg R_JStr 505 y_JStr_length b_JStr_length 1 (some .int) 0 0 := ⟨Or.inl (dz_g2 181 rfl rfl), (dz_g2 184 rfl rfl), (dz_g1 16 rfl rfl), by decide, ⟨by decide, by decide, by decide +kernel⟩, ⟨(dz_g2 182 rfl rfl), (dz_g2 183 rfl rfl)⟩⟩
theorem cl_JStr_335 : dz_Cg R_JStr 335 y_JStr_coder b_JStr_coder 1 (some .byte) 0 0 := ⟨Or.inl (dz_g2 185 rfl rfl), (dz_g2 188 rfl rfl), (dz_g1 16 rfl rfl), by decide, ⟨by decide, by decide, by decide +kernel⟩, ⟨(dz_g2 186 rfl rfl), (dz_g2 187 rfl rfl)⟩⟩
theorem cl_JStr_637 : dz_Cg R_JStr 637 y_JL1_indexOf b_JL1_indexOf 4 (some .int) 4 1 := ⟨Or.inl (dz_g2 189 rfl rfl), (dz_g2 191 rfl rfl), (dz_g1 17 rfl rfl), by decide, ⟨by decide, by decide, by decide +kernel⟩, (dz_g2 190 rfl rfl)⟩
theorem cl_JL1_88 : dz_Cg R_JL1 88 y_JL1_canEncode b_JL1_canEncode 1 (some .boolean) 1 1 := ⟨Or.inl (dz_g2 192 rfl rfl), (dz_g2 194 rfl rfl), (dz_g1 17 rfl rfl), by decide, ⟨by decide, by decide, by decide +kernel⟩, (dz_g2 193 rfl rfl)⟩
theorem cl_JL1_95 : dz_Cg R_JL1 95 y_JL1_indexOfChar b_JL1_indexOfChar 6 (some .int) 4 1 := ⟨Or.inl (dz_g2 197 rfl rfl), (dz_g2 199 rfl rfl), (dz_g1 17 rfl rfl), by decide, ⟨by decide, by decide, by decide +kernel⟩, (dz_g2 198 rfl rfl)⟩
theorem cl_Code_26 : dz_Cg R_Code 26 y_JStr_indexOf b_JStr_indexOf 2 (some .int) 1 0 := ⟨Or.inl (dz_g3 58 rfl rfl), (dz_g2 170 rfl rfl), (dz_g1 16 rfl rfl), by decide, ⟨by decide, by decide, by decide +kernel⟩, ⟨(dz_g2 168 rfl rfl), (dz_g2 169 rfl rfl)⟩⟩
theorem cl_Code_43 : dz_Cg R_Code 43 y_JStr_charAt b_JStr_charAt 2 (some .char) 1 0 := ⟨Or.inl (dz_g4 9 rfl rfl), (dz_g4 12 rfl rfl), (dz_g1 16 rfl rfl), by decide, ⟨by decide, by decide, by decide +kernel⟩, ⟨(dz_g4 10 rfl rfl), (dz_g4 11 rfl rfl)⟩⟩
theorem cl_JStr_495 : dz_Cg R_JStr 495 y_JL1_charAt b_JL1_charAt 2 (some .char) 2 1 := ⟨Or.inl (dz_g4 13 rfl rfl), (dz_g4 15 rfl rfl), (dz_g1 17 rfl rfl), by decide, ⟨by decide, by decide, by decide +kernel⟩, (dz_g4 14 rfl rfl)⟩
theorem cl_JL1_9 : dz_Cg R_JL1 9 y_JStr_checkIndex b_JStr_checkIndex 2 none 2 1 := ⟨Or.inl (dz_g4 16 rfl rfl), (dz_g4 18 rfl rfl), (dz_g1 16 rfl rfl), by decide, ⟨by decide, by decide, by decide +kernel⟩, (dz_g4 17 rfl rfl)⟩
theorem cl_JStr_1059 : dz_Cg R_JStr 1059 y_JPre_checkIndex b_JPre_checkIndex 3 (some .int) 3 1 := ⟨Or.inl (dz_g4 19 rfl rfl), (dz_g4 21 rfl rfl), (dz_g1 19 rfl rfl), by decide, ⟨by decide, by decide, by decide +kernel⟩, (dz_g4 20 rfl rfl)⟩
theorem sl_JStr_38 : Cond.fieldLink R_JStr 38 "java/lang/String" "COMPACT_STRINGS" "Z" ∈ dz_GW := (dz_g2 179 rfl rfl)
theorem sl_JStr_1053 : Cond.fieldLink R_JStr 1053 "jdk/internal/util/Preconditions" "SIOOBE_FORMATTER" "Ljava/util/function/BiFunction;" ∈ dz_GW := (dz_g2 218 rfl rfl)
theorem sl_Code_32 : Cond.fieldLink R_Code 32 "DotBook$Code" "LETTER_CELLS" "[I" ∈ dz_GW := (dz_g3 81 rfl rfl)
theorem sl_Code_40 : Cond.fieldLink R_Code 40 "DotBook$Code" "MARK_CELLS" "[I" ∈ dz_GW := (dz_g3 86 rfl rfl)
theorem sl_JStr_15 : Cond.fieldLink R_JStr 15 "java/lang/String" "coder" "B" ∈ dz_GW := (dz_g5 100 rfl rfl)
theorem sl_JStr_9 : Cond.fieldLink R_JStr 9 "java/lang/String" "value" "[B" ∈ dz_GW := (dz_g5 101 rfl rfl)
theorem ml_DotBook_43 : Cond.methodLink R_DotBook 43 Jvm.Lib.Math.min.name ∈ dz_GW ∧ Cond.static Jvm.Lib.Math.min.name ∈ dz_GW ∧ Cond.initialized "java/lang/Math" ∈ dz_GW ∧ Cond.code Jvm.Lib.Math.min.name Jvm.Lib.Math.min.code 2 (some .int) ∈ dz_GW := ⟨(dz_g1 159 rfl rfl), (dz_g1 160 rfl rfl), (dz_g1 8 rfl rfl), (dz_g1 161 rfl rfl)⟩
theorem ml_DotBook_49 : Cond.methodLink R_DotBook 49 Jvm.Lib.Math.max.name ∈ dz_GW ∧ Cond.static Jvm.Lib.Math.max.name ∈ dz_GW ∧ Cond.initialized "java/lang/Math" ∈ dz_GW ∧ Cond.code Jvm.Lib.Math.max.name Jvm.Lib.Math.max.code 2 (some .int) ∈ dz_GW := ⟨(dz_g1 162 rfl rfl), (dz_g1 163 rfl rfl), (dz_g1 8 rfl rfl), (dz_g1 164 rfl rfl)⟩
theorem ml_JL1_92 : Cond.methodLink R_JL1 92 Jvm.Lib.Math.max.name ∈ dz_GW ∧ Cond.static Jvm.Lib.Math.max.name ∈ dz_GW ∧ Cond.initialized "java/lang/Math" ∈ dz_GW ∧ Cond.code Jvm.Lib.Math.max.name Jvm.Lib.Math.max.code 2 (some .int) ∈ dz_GW := ⟨(dz_g2 195 rfl rfl), (dz_g1 163 rfl rfl), (dz_g1 8 rfl rfl), (dz_g1 164 rfl rfl)⟩
theorem ml_JL1_38 : Cond.methodLink R_JL1 38 Jvm.Lib.Math.min.name ∈ dz_GW ∧ Cond.static Jvm.Lib.Math.min.name ∈ dz_GW ∧ Cond.initialized "java/lang/Math" ∈ dz_GW ∧ Cond.code Jvm.Lib.Math.min.name Jvm.Lib.Math.min.code 2 (some .int) ∈ dz_GW := ⟨(dz_g2 196 rfl rfl), (dz_g1 160 rfl rfl), (dz_g1 8 rfl rfl), (dz_g1 161 rfl rfl)⟩
section ly_sta
variable {κ : dz_Kx} {l : Launch} {D : va_G} {Dt : Nat → ClassId} {b sz : Nat} {cc : ByteArray} {own : String} {nL : Nat} {ret : Option FieldType} {d : Nat} {post : Option Value → dz_Hp → Prop} {I : dz_Hp} {pc : Nat} {ls : List (Nat × Value)} {st : List Value}
theorem ly_D (x : ly_X κ l D Dt b sz cc own nL ret d post) : dz_D κ = Dt := by
  obtain ⟨p, l', e, R, s, m, args, below, meth, c, Q, D', Dt', A, nL'⟩ := κ
  exact x.2.1.2.2.1
theorem ly_getsL (x : ly_X κ l D Dt b sz cc own nL ret d post) {index : Nat} (hf : Cond.fieldLink own index "DotBook$Code" "LETTER_CELLS" "[I" ∈ dz_GW) (hd : decode cc pc = .ok (.getstatic index, 3)) (kk : ly_V κ b sz I (pc + 3) ls (.ref (Dt 300) :: st)) : ly_V κ b sz I pc ls st := dz_getsL x.1 hf hd (by rw [ly_D x]; exact kk)
theorem ly_getsM (x : ly_X κ l D Dt b sz cc own nL ret d post) {index : Nat} (hf : Cond.fieldLink own index "DotBook$Code" "MARK_CELLS" "[I" ∈ dz_GW) (hd : decode cc pc = .ok (.getstatic index, 3)) (kk : ly_V κ b sz I (pc + 3) ls (.ref (Dt 301) :: st)) : ly_V κ b sz I pc ls st := dz_getsM x.1 hf hd (by rw [ly_D x]; exact kk)
theorem ly_getsC (x : ly_X κ l D Dt b sz cc own nL ret d post) {index : Nat} (hf : Cond.fieldLink own index "java/lang/String" "COMPACT_STRINGS" "Z" ∈ dz_GW) (hd : decode cc pc = .ok (.getstatic index, 3)) (kk : ly_V κ b sz I (pc + 3) ls (.int (dz_i 1) :: st)) : ly_V κ b sz I pc ls st := dz_getsC x.1 hf hd kk
theorem ly_tldL (x : ly_X κ l D Dt b sz cc own nL ret d post) {z : Int} (hi : 0 ≤ z ∧ z < 26) (hd : decode cc pc = .ok (.iaload, 1)) (kk : ly_V κ b sz I (pc + 1) ls (.int (dz_i (sp_lc z)) :: st)) : ly_V κ b sz I pc ls (.int (dz_i z) :: .ref (Dt 300) :: st) := by
  have h := dz_tldL x.1 hi hd kk
  rw [ly_D x] at h; exact h
theorem ly_tldM (x : ly_X κ l D Dt b sz cc own nL ret d post) {z : Int} (hi : 0 ≤ z ∧ z < 8) (hd : decode cc pc = .ok (.iaload, 1)) (kk : ly_V κ b sz I (pc + 1) ls (.int (dz_i (sp_mc z)) :: st)) : ly_V κ b sz I pc ls (.int (dz_i z) :: .ref (Dt 301) :: st) := by
  have h := dz_tldM x.1 hi hd kk
  rw [ly_D x] at h; exact h
theorem ly_tlnL (x : ly_X κ l D Dt b sz cc own nL ret d post) (hd : decode cc pc = .ok (.arraylength, 1)) (kk : ly_V κ b sz I (pc + 1) ls (.int (dz_i 26) :: st)) : ly_V κ b sz I pc ls (.ref (Dt 300) :: st) := by
  have h := dz_tlnL x.1 hd kk
  rw [ly_D x] at h; exact h
theorem ly_tlnM (x : ly_X κ l D Dt b sz cc own nL ret d post) (hd : decode cc pc = .ok (.arraylength, 1)) (kk : ly_V κ b sz I (pc + 1) ls (.int (dz_i 8) :: st)) : ly_V κ b sz I pc ls (.ref (Dt 301) :: st) := by
  have h := dz_tlnM x.1 hd kk
  rw [ly_D x] at h; exact h
theorem ly_gfv (x : ly_X κ l D Dt b sz cc own nL ret d post) {i index : Nat} (hi : i < 2) (hf : Cond.fieldLink own index "java/lang/String" "value" "[B" ∈ dz_GW) (hd : decode cc pc = .ok (.getfield index, 3)) (kk : ly_V κ b sz I (pc + 3) ls (.ref (Dt (200 + i)) :: st)) : ly_V κ b sz I pc ls (.ref (Dt (100 + i)) :: st) := by
  have h := dz_gfv x.1 hi hf hd (by rw [ly_D x]; exact kk)
  rw [ly_D x] at h; exact h
theorem ly_gfc (x : ly_X κ l D Dt b sz cc own nL ret d post) {i index : Nat} (hi : i < 2) (hf : Cond.fieldLink own index "java/lang/String" "coder" "B" ∈ dz_GW) (hd : decode cc pc = .ok (.getfield index, 3)) (kk : ly_V κ b sz I (pc + 3) ls (.int (dz_i 0) :: st)) : ly_V κ b sz I pc ls (.ref (Dt (100 + i)) :: st) := by
  have h := dz_gfc x.1 hi hf hd kk
  rw [ly_D x] at h; exact h
theorem ly_tbl (x : ly_X κ l D Dt b sz cc own nL ret d post) {i : Nat} (hi : i < 2) {z w : Int} (hz0 : 0 ≤ z ∧ z < sp_sl i) (hw : sp_sb i z = w) (hd : decode cc pc = .ok (.baload, 1)) (kk : ly_V κ b sz I (pc + 1) ls (.int (dz_i w) :: st)) : ly_V κ b sz I pc ls (.int (dz_i z) :: .ref (Dt (200 + i)) :: st) := by
  subst hw
  have h := dz_tbl x.1 hi hz0 hd kk
  rw [ly_D x] at h; exact h
theorem ly_tbn (x : ly_X κ l D Dt b sz cc own nL ret d post) {i : Nat} (hi : i < 2) {w : Int} (hw : ((sp_sl i : Nat) : Int) = w) (hd : decode cc pc = .ok (.arraylength, 1)) (kk : ly_V κ b sz I (pc + 1) ls (.int (dz_i w) :: st)) : ly_V κ b sz I pc ls (.ref (Dt (200 + i)) :: st) := by
  subst hw
  have h := dz_tbn x.1 hi hd kk
  rw [ly_D x] at h; exact h
theorem ly_ldc0 (x : ly_X κ l D Dt b sz cc R_Rule nL ret d post) (hd : decode cc pc = .ok (.ldc 19, 2)) (kk : ly_V κ b sz I (pc + 2) ls (.ref (Dt 100) :: st)) : ly_V κ b sz I pc ls st := dz_ldc0 x.1 hd (by rw [ly_D x]; exact kk)
theorem ly_ldc1 (x : ly_X κ l D Dt b sz cc R_Code nL ret d post) (hd : decode cc pc = .ok (.ldc 24, 2)) (kk : ly_V κ b sz I (pc + 2) ls (.ref (Dt 101) :: st)) : ly_V κ b sz I pc ls st := dz_ldc1 x.1 hd (by rw [ly_D x]; exact kk)
theorem ly_getsF (x : ly_X κ l D Dt b sz cc own nL ret d post) {index : Nat} (hf : Cond.fieldLink own index "jdk/internal/util/Preconditions" "SIOOBE_FORMATTER" "Ljava/util/function/BiFunction;" ∈ dz_GW) (hd : decode cc pc = .ok (.getstatic index, 3)) (kk : ∀ w : Value, (w = .null ∨ ∃ t, w = .ref t) → ly_V κ b sz I (pc + 3) ls (w :: st)) : ly_V κ b sz I pc ls st := by
  obtain ⟨p, l', e, R, s, m, args, below, meth, c, Q, D', Dt', A, nL'⟩ := κ
  obtain ⟨hx, hb, hml, hown, hts, hK, hA, hlk, hns⟩ := x.1
  intro H locs la hz hW hsA hS hc hl
  rcases hK.2.2.2.2.2.2.2.2.2.2.2.2.2.1 with h | ⟨t, h⟩
  · exact va_gets hx hb h hS hown (hts _ hf) (fun _ h => h) hd (kk _ (Or.inl rfl) H locs la hz hW hsA hS hc hl)
  · exact va_gets hx hb h hS hown (hts _ hf) (fun _ h => h) hd (kk _ (Or.inr ⟨t, rfl⟩) H locs la hz hW hsA hS hc hl)
theorem dz_i8 {z : Int} (h : 0 ≤ z ∧ z < 256) : (dz_i z).toInt8.toInt32 = dz_i (if z < 128 then z else z - 256) := by
  have key : ∀ n : Nat, n < 256 → (dz_i (n : Int)).toInt8.toInt32 = dz_i (if (n : Int) < 128 then (n : Int) else (n : Int) - 256) := by decide +kernel
  have h2 := key z.toNat (by omega)
  rw [show ((z.toNat : Nat) : Int) = z by omega] at h2
  exact h2
theorem ly_i2b (x : ly_X κ l D Dt b sz cc own nL ret d post) {z w : Int} (h : 0 ≤ z ∧ z < 256) (hw : (if z < 128 then z else z - 256) = w) (hd : decode cc pc = .ok (.i2b, 1)) (kk : ly_V κ b sz I (pc + 1) ls (.int (dz_i w) :: st)) : ly_V κ b sz I pc ls (.int (dz_i z) :: st) := by
  obtain ⟨p, l', e, R, s, m, args, below, meth, c, Q, D', Dt', A, nL'⟩ := κ
  obtain ⟨hx, hb, hml, hown, hts, hK, hA, hlk, hns⟩ := x.1
  intro H locs la hz hW hsA hS hc hl
  exact lv_i2b hx hb hd (by rw [dz_i8 h, hw]) (kk H locs la hz hW hsA hS hc hl)
theorem ly_ishr (x : ly_X κ l D Dt b sz cc own nL ret d post) {z : Int32} (hd : decode cc pc = .ok (.ishr, 1)) (kk : ly_V κ b sz I (pc + 1) ls (.int z :: st)) : ly_V κ b sz I pc ls (.int (dz_i 0) :: .int z :: st) := by
  obtain ⟨p, l', e, R, s, m, args, below, meth, c, Q, D', Dt', A, nL'⟩ := κ
  obtain ⟨hx, hb, hml, hown, hts, hK, hA, hlk, hns⟩ := x.1
  intro H locs la hz hW hsA hS hc hl
  refine lv_ishr hx hb hd ?_
  rw [show z >>> (dz_i 0 &&& 31) = z from sb_shr0 z]
  exact kk H locs la hz hW hsA hS hc hl
theorem ly_max (x : ly_X κ l D Dt b sz cc own nL ret d post) {index : Nat} (hg : Cond.methodLink own index Jvm.Lib.Math.max.name ∈ dz_GW ∧ Cond.static Jvm.Lib.Math.max.name ∈ dz_GW ∧ Cond.initialized "java/lang/Math" ∈ dz_GW ∧ Cond.code Jvm.Lib.Math.max.name Jvm.Lib.Math.max.code 2 (some .int) ∈ dz_GW) (hd0 : 1 ≤ d) (hst : (st.map fun v => v.category).sum ≤ 8) {z w u : Int} (h1 : -2147483648 ≤ z ∧ z < 2147483648) (h2 : -2147483648 ≤ w ∧ w < 2147483648) (hu : (if z < w then w else z) = u) (hd : decode cc pc = .ok (.invokestatic index, 3)) (kk : ly_V κ b sz I (pc + 3) ls (.int (dz_i u) :: st)) : ly_V κ b sz I pc ls (.int (dz_i w) :: .int (dz_i z) :: st) := by
  obtain ⟨p, l', e, R, s, m, args, below, meth, c, Q, D', Dt', A, nL'⟩ := κ
  obtain ⟨hx, hb, hml, hown, hts, hK, hA, hlk, hns⟩ := x.1
  obtain ⟨r1, r2, r3, r4⟩ := x.2.2.2
  intro H locs la hz hW hsA hS hc hl
  have hz9 : d ≤ R.frames := r1
  have hy9 : 36 * d ≤ R.locals := r2
  refine va_mmax hx hb (by rw [hml]; exact hl.1.symm) hown (hts _ hg.1) (hts _ hg.2.1) (hts _ hg.2.2.1) (hts _ hg.2.2.2) (by omega) (by omega) (Nat.zero_le _) (Nat.zero_le _) hd ?_
  have e : (if dz_i z < dz_i w then dz_i w else dz_i z) = dz_i u := by
    rw [← hu]
    by_cases hc9 : z < w
    · rw [if_pos ((dz_lt h1 h2).mpr hc9), if_pos hc9]
    · rw [if_neg (fun q => hc9 ((dz_lt h1 h2).mp q)), if_neg hc9]
  rw [e]
  exact kk H locs la hz hW hsA hS hc hl
theorem ly_min (x : ly_X κ l D Dt b sz cc own nL ret d post) {index : Nat} (hg : Cond.methodLink own index Jvm.Lib.Math.min.name ∈ dz_GW ∧ Cond.static Jvm.Lib.Math.min.name ∈ dz_GW ∧ Cond.initialized "java/lang/Math" ∈ dz_GW ∧ Cond.code Jvm.Lib.Math.min.name Jvm.Lib.Math.min.code 2 (some .int) ∈ dz_GW) (hd0 : 1 ≤ d) (hst : (st.map fun v => v.category).sum ≤ 8) {z w u : Int} (h1 : -2147483648 ≤ z ∧ z < 2147483648) (h2 : -2147483648 ≤ w ∧ w < 2147483648) (hu : (if w < z then w else z) = u) (hd : decode cc pc = .ok (.invokestatic index, 3)) (kk : ly_V κ b sz I (pc + 3) ls (.int (dz_i u) :: st)) : ly_V κ b sz I pc ls (.int (dz_i w) :: .int (dz_i z) :: st) := by
  obtain ⟨p, l', e, R, s, m, args, below, meth, c, Q, D', Dt', A, nL'⟩ := κ
  obtain ⟨hx, hb, hml, hown, hts, hK, hA, hlk, hns⟩ := x.1
  obtain ⟨r1, r2, r3, r4⟩ := x.2.2.2
  intro H locs la hz hW hsA hS hc hl
  have hz9 : d ≤ R.frames := r1
  have hy9 : 36 * d ≤ R.locals := r2
  refine va_mmin hx hb (by rw [hml]; exact hl.1.symm) hown (hts _ hg.1) (hts _ hg.2.1) (hts _ hg.2.2.1) (hts _ hg.2.2.2) (by omega) (by omega) (Nat.zero_le _) (Nat.zero_le _) hd ?_
  have e : (if dz_i w < dz_i z then dz_i w else dz_i z) = dz_i u := by
    rw [← hu]
    by_cases hc9 : w < z
    · rw [if_pos ((dz_lt h2 h1).mpr hc9), if_pos hc9]
    · rw [if_neg (fun q => hc9 ((dz_lt h2 h1).mp q)), if_neg hc9]
  first | rw [e]; exact kk H locs la hz hW hsA hS hc hl | exact kk H locs la hz hW hsA hS hc hl
variable {y : MethodName} {bc : ByteArray} {nL' d' n index : Nat} {ret' : Option FieldType} {post' : Option Value → dz_Hp → Prop} {As rest : List Value}
theorem ly_callT (x : ly_X κ l D Dt b sz cc own nL ret d post) (hg : dz_Cg own index y bc nL' ret' n 0) {i : Nat} (hi : i < 2) (hC : ly_M l D Dt b sz y bc nL' ret' d' (.ref (Dt (100 + i)) :: As) I post') (hd0 : d' + 1 ≤ d) (hrc : y.cls = "java/lang/String") (hn : As.length = n) {st0 : List Value} (hst0 : st0 = As.reverse ++ .ref (Dt (100 + i)) :: rest) (hst : (rest.map fun v => v.category).sum ≤ 8) (hd : decode cc pc = .ok (.invokevirtual index, 3))
    (kk : ∀ v I', post' v I' → ly_V κ b sz I' (pc + 3) ls (v.toList ++ rest)) : ly_V κ b sz I pc ls st0 := by
  obtain ⟨am, hDd, -, hR⟩ := x
  obtain ⟨p, l', e, R, s, m, args, below, meth, c, Q, D', Dt', A, nL9⟩ := κ
  obtain ⟨hx, hb, hml, hown, hts, hK, hA, hlk, hns⟩ := am
  obtain ⟨rfl, rfl, rfl, rfl⟩ := hDd
  obtain ⟨r1, r2, r3, r4⟩ := hR
  obtain ⟨g1, g2, g3, g4, g5, g6, g7⟩ := hg
  intro H locs la hz hW hsA hS hc hl
  obtain ⟨hbl, hpc⟩ := dz_pre (As := .ref (Dt' (100 + i)) :: As) hA hz hsA hS hK hW
  have hrcv := vk_recv hK.2.2.2.2.2.2.2.2.2.1 hi hS
  rw [← hrc] at hrcv
  have hroom : (dz_rm d' 0 0).frames + 1 ≤ R.frames ∧ 8 + (nL' + 11) + (dz_rm d' 0 0).locals ≤ R.locals := by
    simp only [dz_rm]; omega
  refine dz_after (post := fun v sz' sk' rf' I' => sz' = sz ∧ sk' = ly_s b ∧ rf' = ly_r b ∧ post' v I') (a := (Value.ref (Dt' (100 + i)) :: As).toArray) (mc := 0) (ms := 0) (rest := rest) ?_ hA hz hsA hS hc hl (fun v sz' sk' rf' I' h => by obtain ⟨rfl, rfl, rfl, h⟩ := h; exact kk v I' h)
  rcases g1 with g1 | ⟨host, g1⟩
  · exact va_runV ⟨hx, hb, hml, hown, hts⟩ hC ⟨callB_of n hts (dz_goodw y bc nL' ret' g2) rfl rfl rfl (hts _ g3) (hts _ g1) g5 hroom, hts _ g6, hts _ g7⟩ ⟨hbl, hrcv, hpc⟩ rfl hn hl.1 hst0 (by show 2 * 0 + _ ≤ 8; omega) hd ⟨by omega, by omega⟩
  · exact va_runVN ⟨hx, hb, hml, hown, hts⟩ hC ⟨va_cnB n hts (dz_goodw y bc nL' ret' g2) rfl rfl rfl (hK.2.1 _ g1) (hts _ g3) g5 hroom, hts _ g6, hts _ g7⟩ ⟨hbl, hrcv, hpc⟩ rfl hn hl.1 hst0 (by show 2 * 0 + _ ≤ 8; omega) hd ⟨by omega, by omega⟩
end ly_sta
end
section
set_option maxRecDepth 100000 in
set_option maxHeartbeats 4000000 in
theorem c_Code_isSmall (l : Launch) (D : va_G) (Dt : Nat → ClassId) (b sz : Nat) (I : dz_Hp) (c : Int) (hc : 0 ≤ c ∧ c < 65536) : ly_M l D Dt b sz y_Code_isSmall b_Code_isSmall 1 (some .boolean) 1 [.int (dz_i c)] I (fun v I' => v = some (.int (dz_i (if 97 ≤ c ∧ c ≤ 122 then 1 else 0))) ∧ I' = I) := by
  refine ly_enter R_Code (by decide) rfl (Nat.le_of_ble_eq_true rfl) (ly_cat _ 0 rfl) (fun κ x => ?_)
  have hN := ly_N x
  show ly_V κ b sz I 0 [(0, .int (dz_i c))] []
  refine dz_iload_n x.1 0 d_Code_isSmall_0 rfl rfl ?_
  refine dz_bipush x.1 d_Code_isSmall_1 (by decide) ?_
  refine dz_icmp_lt (tgt := 16) x.1 d_Code_isSmall_3 (by decide) (by omega) (by omega) (fun hc1 => ?_) (fun hc1 => ?_)
  · refine dz_iconst x.1 d_Code_isSmall_16 ?_
    exact ly_iret x d_Code_isSmall_17 (dz_nbo (by omega)) ⟨by first | rw [if_pos (by omega)] | rw [if_neg (by omega)], rfl⟩
  · refine dz_iload_n x.1 0 d_Code_isSmall_6 rfl rfl ?_
    refine dz_bipush x.1 d_Code_isSmall_7 (by decide) ?_
    refine dz_icmp_gt (tgt := 16) x.1 d_Code_isSmall_9 (by decide) (by omega) (by omega) (fun hc2 => ?_) (fun hc2 => ?_)
    · refine dz_iconst x.1 d_Code_isSmall_16 ?_
      exact ly_iret x d_Code_isSmall_17 (dz_nbo (by omega)) ⟨by first | rw [if_pos (by omega)] | rw [if_neg (by omega)], rfl⟩
    · refine dz_iconst x.1 d_Code_isSmall_12 ?_
      refine dz_goto (tgt := 17) x.1 d_Code_isSmall_13 (by decide) ?_
      exact ly_iret x d_Code_isSmall_17 (dz_nbo (by omega)) ⟨by first | rw [if_pos (by omega)] | rw [if_neg (by omega)], rfl⟩
set_option maxRecDepth 100000 in
set_option maxHeartbeats 4000000 in
theorem c_Code_isCapital (l : Launch) (D : va_G) (Dt : Nat → ClassId) (b sz : Nat) (I : dz_Hp) (c : Int) (hc : 0 ≤ c ∧ c < 65536) : ly_M l D Dt b sz y_Code_isCapital b_Code_isCapital 1 (some .boolean) 1 [.int (dz_i c)] I (fun v I' => v = some (.int (dz_i (if 65 ≤ c ∧ c ≤ 90 then 1 else 0))) ∧ I' = I) := by
  refine ly_enter R_Code (by decide) rfl (Nat.le_of_ble_eq_true rfl) (ly_cat _ 0 rfl) (fun κ x => ?_)
  have hN := ly_N x
  show ly_V κ b sz I 0 [(0, .int (dz_i c))] []
  refine dz_iload_n x.1 0 d_Code_isCapital_0 rfl rfl ?_
  refine dz_bipush x.1 d_Code_isCapital_1 (by decide) ?_
  refine dz_icmp_lt (tgt := 16) x.1 d_Code_isCapital_3 (by decide) (by omega) (by omega) (fun hc1 => ?_) (fun hc1 => ?_)
  · refine dz_iconst x.1 d_Code_isCapital_16 ?_
    exact ly_iret x d_Code_isCapital_17 (dz_nbo (by omega)) ⟨by first | rw [if_pos (by omega)] | rw [if_neg (by omega)], rfl⟩
  · refine dz_iload_n x.1 0 d_Code_isCapital_6 rfl rfl ?_
    refine dz_bipush x.1 d_Code_isCapital_7 (by decide) ?_
    refine dz_icmp_gt (tgt := 16) x.1 d_Code_isCapital_9 (by decide) (by omega) (by omega) (fun hc2 => ?_) (fun hc2 => ?_)
    · refine dz_iconst x.1 d_Code_isCapital_16 ?_
      exact ly_iret x d_Code_isCapital_17 (dz_nbo (by omega)) ⟨by first | rw [if_pos (by omega)] | rw [if_neg (by omega)], rfl⟩
    · refine dz_iconst x.1 d_Code_isCapital_12 ?_
      refine dz_goto (tgt := 17) x.1 d_Code_isCapital_13 (by decide) ?_
      exact ly_iret x d_Code_isCapital_17 (dz_nbo (by omega)) ⟨by first | rw [if_pos (by omega)] | rw [if_neg (by omega)], rfl⟩
set_option maxRecDepth 100000 in
set_option maxHeartbeats 4000000 in
theorem c_Code_isDigit (l : Launch) (D : va_G) (Dt : Nat → ClassId) (b sz : Nat) (I : dz_Hp) (c : Int) (hc : 0 ≤ c ∧ c < 65536) : ly_M l D Dt b sz y_Code_isDigit b_Code_isDigit 1 (some .boolean) 1 [.int (dz_i c)] I (fun v I' => v = some (.int (dz_i (if 48 ≤ c ∧ c ≤ 57 then 1 else 0))) ∧ I' = I) := by
  refine ly_enter R_Code (by decide) rfl (Nat.le_of_ble_eq_true rfl) (ly_cat _ 0 rfl) (fun κ x => ?_)
  have hN := ly_N x
  show ly_V κ b sz I 0 [(0, .int (dz_i c))] []
  refine dz_iload_n x.1 0 d_Code_isDigit_0 rfl rfl ?_
  refine dz_bipush x.1 d_Code_isDigit_1 (by decide) ?_
  refine dz_icmp_lt (tgt := 16) x.1 d_Code_isDigit_3 (by decide) (by omega) (by omega) (fun hc1 => ?_) (fun hc1 => ?_)
  · refine dz_iconst x.1 d_Code_isDigit_16 ?_
    exact ly_iret x d_Code_isDigit_17 (dz_nbo (by omega)) ⟨by first | rw [if_pos (by omega)] | rw [if_neg (by omega)], rfl⟩
  · refine dz_iload_n x.1 0 d_Code_isDigit_6 rfl rfl ?_
    refine dz_bipush x.1 d_Code_isDigit_7 (by decide) ?_
    refine dz_icmp_gt (tgt := 16) x.1 d_Code_isDigit_9 (by decide) (by omega) (by omega) (fun hc2 => ?_) (fun hc2 => ?_)
    · refine dz_iconst x.1 d_Code_isDigit_16 ?_
      exact ly_iret x d_Code_isDigit_17 (dz_nbo (by omega)) ⟨by first | rw [if_pos (by omega)] | rw [if_neg (by omega)], rfl⟩
    · refine dz_iconst x.1 d_Code_isDigit_12 ?_
      refine dz_goto (tgt := 17) x.1 d_Code_isDigit_13 (by decide) ?_
      exact ly_iret x d_Code_isDigit_17 (dz_nbo (by omega)) ⟨by first | rw [if_pos (by omega)] | rw [if_neg (by omega)], rfl⟩
set_option maxRecDepth 100000 in
set_option maxHeartbeats 4000000 in
theorem c_Code_looksLikeDigit (l : Launch) (D : va_G) (Dt : Nat → ClassId) (b sz : Nat) (I : dz_Hp) (c : Int) (hc : 0 ≤ c ∧ c < 65536) : ly_M l D Dt b sz y_Code_looksLikeDigit b_Code_looksLikeDigit 1 (some .boolean) 1 [.int (dz_i c)] I (fun v I' => v = some (.int (dz_i (if 97 ≤ c ∧ c ≤ 106 then 1 else 0))) ∧ I' = I) := by
  refine ly_enter R_Code (by decide) rfl (Nat.le_of_ble_eq_true rfl) (ly_cat _ 0 rfl) (fun κ x => ?_)
  have hN := ly_N x
  show ly_V κ b sz I 0 [(0, .int (dz_i c))] []
  refine dz_iload_n x.1 0 d_Code_looksLikeDigit_0 rfl rfl ?_
  refine dz_bipush x.1 d_Code_looksLikeDigit_1 (by decide) ?_
  refine dz_icmp_lt (tgt := 16) x.1 d_Code_looksLikeDigit_3 (by decide) (by omega) (by omega) (fun hc1 => ?_) (fun hc1 => ?_)
  · refine dz_iconst x.1 d_Code_looksLikeDigit_16 ?_
    exact ly_iret x d_Code_looksLikeDigit_17 (dz_nbo (by omega)) ⟨by first | rw [if_pos (by omega)] | rw [if_neg (by omega)], rfl⟩
  · refine dz_iload_n x.1 0 d_Code_looksLikeDigit_6 rfl rfl ?_
    refine dz_bipush x.1 d_Code_looksLikeDigit_7 (by decide) ?_
    refine dz_icmp_gt (tgt := 16) x.1 d_Code_looksLikeDigit_9 (by decide) (by omega) (by omega) (fun hc2 => ?_) (fun hc2 => ?_)
    · refine dz_iconst x.1 d_Code_looksLikeDigit_16 ?_
      exact ly_iret x d_Code_looksLikeDigit_17 (dz_nbo (by omega)) ⟨by first | rw [if_pos (by omega)] | rw [if_neg (by omega)], rfl⟩
    · refine dz_iconst x.1 d_Code_looksLikeDigit_12 ?_
      refine dz_goto (tgt := 17) x.1 d_Code_looksLikeDigit_13 (by decide) ?_
      exact ly_iret x d_Code_looksLikeDigit_17 (dz_nbo (by omega)) ⟨by first | rw [if_pos (by omega)] | rw [if_neg (by omega)], rfl⟩
end
section
/-- where a character stands in a text: 0 "wbmea", 1 ".,;:?!-'" -/
def sp_ix (i : Nat) (c : Int) : Int := if i = 0 then (if c = 119 then 0 else if c = 98 then 1 else if c = 109 then 2 else if c = 101 then 3 else if c = 97 then 4 else -1) else (if c = 46 then 0 else if c = 44 then 1 else if c = 59 then 2 else if c = 58 then 3 else if c = 63 then 4 else if c = 33 then 5 else if c = 45 then 6 else if c = 39 then 7 else -1)
theorem sp_ixn0 {c : Int} (h : c ≠ 119 ∧ c ≠ 98 ∧ c ≠ 109 ∧ c ≠ 101 ∧ c ≠ 97) : sp_ix 0 c = -1 := by
  unfold sp_ix; rw [if_pos rfl, if_neg h.1, if_neg h.2.1, if_neg h.2.2.1, if_neg h.2.2.2.1, if_neg h.2.2.2.2]
theorem sp_ixn1 {c : Int} (h : c ≠ 46 ∧ c ≠ 44 ∧ c ≠ 59 ∧ c ≠ 58 ∧ c ≠ 63 ∧ c ≠ 33 ∧ c ≠ 45 ∧ c ≠ 39) : sp_ix 1 c = -1 := by
  unfold sp_ix; rw [if_neg (by decide), if_neg h.1, if_neg h.2.1, if_neg h.2.2.1, if_neg h.2.2.2.1, if_neg h.2.2.2.2.1, if_neg h.2.2.2.2.2.1, if_neg h.2.2.2.2.2.2.1, if_neg h.2.2.2.2.2.2.2]
theorem sp_f {c k r : Int} {i : Nat} (h : c = k) (hk : sp_ix i k = r) : some (Value.int (dz_i r)) = some (Value.int (dz_i (sp_ix i c))) := by subst h; rw [hk]
theorem sp_ix_rng (i : Nat) (c : Int) : -1 ≤ sp_ix i c ∧ sp_ix i c ≤ 7 := by unfold sp_ix; (repeat' split) <;> omega
set_option maxRecDepth 100000 in
set_option maxHeartbeats 4000000 in
theorem c_JL1_canEncode (l : Launch) (D : va_G) (Dt : Nat → ClassId) (b sz : Nat) (I : dz_Hp) (c : Int) (hc : 0 ≤ c ∧ c < 65536) : ly_M l D Dt b sz y_JL1_canEncode b_JL1_canEncode 1 (some .boolean) 1 [.int (dz_i c)] I (fun v I' => v = some (.int (dz_i (if c ≤ 255 then 1 else 0))) ∧ I' = I) := by
  refine ly_enter R_JL1 (by decide) rfl (Nat.le_of_ble_eq_true rfl) (ly_cat _ 0 rfl) (fun κ x => ?_)
  have hN := ly_N x
  show ly_V κ b sz I 0 [(0, .int (dz_i c))] []
  refine dz_iload_n x.1 0 d_JL1_canEncode_0 rfl rfl ?_
  refine dz_if_lt (tgt := 15) x.1 d_JL1_canEncode_1 (by decide) (by omega) (fun hc1 => ?_) (fun hc1 => ?_)
  · refine dz_iconst x.1 d_JL1_canEncode_15 ?_
    exact ly_iret x d_JL1_canEncode_16 (dz_nbo (by omega)) ⟨by first | (exfalso; omega) | rw [if_pos (by omega)] | rw [if_neg (by omega)], rfl⟩
  · refine dz_iload_n x.1 0 d_JL1_canEncode_4 rfl rfl ?_
    refine dz_sipush x.1 d_JL1_canEncode_5 (by decide) ?_
    refine dz_icmp_gt (tgt := 15) x.1 d_JL1_canEncode_8 (by decide) (by omega) (by omega) (fun hc2 => ?_) (fun hc2 => ?_)
    · refine dz_iconst x.1 d_JL1_canEncode_15 ?_
      exact ly_iret x d_JL1_canEncode_16 (dz_nbo (by omega)) ⟨by first | (exfalso; omega) | rw [if_pos (by omega)] | rw [if_neg (by omega)], rfl⟩
    · refine dz_iconst x.1 d_JL1_canEncode_11 ?_
      refine dz_goto (tgt := 16) x.1 d_JL1_canEncode_12 (by decide) ?_
      exact ly_iret x d_JL1_canEncode_16 (dz_nbo (by omega)) ⟨by first | (exfalso; omega) | rw [if_pos (by omega)] | rw [if_neg (by omega)], rfl⟩
set_option maxRecDepth 100000 in
set_option maxHeartbeats 4000000 in
theorem c_JL1_indexOfChar_0 (l : Launch) (D : va_G) (Dt : Nat → ClassId) (b sz : Nat) (I : dz_Hp) (c : Int) (hc : 0 ≤ c ∧ c < 256) : ly_M l D Dt b sz y_JL1_indexOfChar b_JL1_indexOfChar 6 (some .int) 1 [.ref (Dt (200 + 0)), .int (dz_i c), .int (dz_i 0), .int (dz_i 5)] I (fun v I' => v = some (.int (dz_i (sp_ix 0 c))) ∧ I' = I) := by
  refine ly_enter R_JL1 (by decide) rfl (Nat.le_of_ble_eq_true rfl) (ly_cat _ 0 rfl) (fun κ x => ?_)
  have hN := ly_N x
  show ly_V κ b sz I 0 [(0, .ref (Dt (200 + 0))), (1, .int (dz_i c)), (2, .int (dz_i 0)), (3, .int (dz_i 5))] []
  by_cases h8 : c < 128
  · refine dz_iload_n x.1 1 d_JL1_indexOfChar_0 rfl rfl ?_
    refine ly_i2b (w := c) x (by omega) (by rw [if_pos h8]) d_JL1_indexOfChar_1 ?_
    refine dz_istore (ls' := [(0, .ref (Dt (200 + 0))), (1, .int (dz_i c)), (2, .int (dz_i 0)), (3, .int (dz_i 5)), (4, .int (dz_i c))]) x.1 d_JL1_indexOfChar_2 hN (by decide) rfl ?_
    refine dz_iload_n x.1 2 d_JL1_indexOfChar_4 rfl rfl ?_
    refine dz_istore (ls' := [(0, .ref (Dt (200 + 0))), (1, .int (dz_i c)), (2, .int (dz_i 0)), (3, .int (dz_i 5)), (4, .int (dz_i c)), (5, .int (dz_i 0))]) x.1 d_JL1_indexOfChar_5 hN (by decide) rfl ?_
    refine dz_iload x.1 5 d_JL1_indexOfChar_7 rfl ?_
    refine dz_iload_n x.1 3 d_JL1_indexOfChar_9 rfl rfl ?_
    refine dz_icmp_ge (tgt := 31) x.1 d_JL1_indexOfChar_10 (by decide) (by omega) (by omega) (fun hc1 => by exfalso; omega) (fun hc1 => ?_)
    refine dz_aload_n x.1 0 d_JL1_indexOfChar_13 rfl rfl ?_
    refine dz_iload x.1 5 d_JL1_indexOfChar_14 rfl ?_
    refine ly_tbl (i := 0) (w := 119) x (by decide) (by decide) (by decide) d_JL1_indexOfChar_16 ?_
    refine dz_iload x.1 4 d_JL1_indexOfChar_17 rfl ?_
    refine dz_icmp_ne (tgt := 25) x.1 d_JL1_indexOfChar_19 (by decide) (by omega) (by omega) (fun hc2 => ?_) (fun hc2 => ?_)
    · refine dz_iinc (z := 1) (ls' := [(0, .ref (Dt (200 + 0))), (1, .int (dz_i c)), (2, .int (dz_i 0)), (3, .int (dz_i 5)), (4, .int (dz_i c)), (5, .int (dz_i 1))]) x.1 5 d_JL1_indexOfChar_25 rfl hN (by decide) (by omega) rfl ?_
      refine dz_goto (tgt := 7) x.1 d_JL1_indexOfChar_28 (by decide) ?_
      refine dz_iload x.1 5 d_JL1_indexOfChar_7 rfl ?_
      refine dz_iload_n x.1 3 d_JL1_indexOfChar_9 rfl rfl ?_
      refine dz_icmp_ge (tgt := 31) x.1 d_JL1_indexOfChar_10 (by decide) (by omega) (by omega) (fun hc3 => by exfalso; omega) (fun hc3 => ?_)
      refine dz_aload_n x.1 0 d_JL1_indexOfChar_13 rfl rfl ?_
      refine dz_iload x.1 5 d_JL1_indexOfChar_14 rfl ?_
      refine ly_tbl (i := 0) (w := 98) x (by decide) (by decide) (by decide) d_JL1_indexOfChar_16 ?_
      refine dz_iload x.1 4 d_JL1_indexOfChar_17 rfl ?_
      refine dz_icmp_ne (tgt := 25) x.1 d_JL1_indexOfChar_19 (by decide) (by omega) (by omega) (fun hc4 => ?_) (fun hc4 => ?_)
      · refine dz_iinc (z := 2) (ls' := [(0, .ref (Dt (200 + 0))), (1, .int (dz_i c)), (2, .int (dz_i 0)), (3, .int (dz_i 5)), (4, .int (dz_i c)), (5, .int (dz_i 2))]) x.1 5 d_JL1_indexOfChar_25 rfl hN (by decide) (by omega) rfl ?_
        refine dz_goto (tgt := 7) x.1 d_JL1_indexOfChar_28 (by decide) ?_
        refine dz_iload x.1 5 d_JL1_indexOfChar_7 rfl ?_
        refine dz_iload_n x.1 3 d_JL1_indexOfChar_9 rfl rfl ?_
        refine dz_icmp_ge (tgt := 31) x.1 d_JL1_indexOfChar_10 (by decide) (by omega) (by omega) (fun hc5 => by exfalso; omega) (fun hc5 => ?_)
        refine dz_aload_n x.1 0 d_JL1_indexOfChar_13 rfl rfl ?_
        refine dz_iload x.1 5 d_JL1_indexOfChar_14 rfl ?_
        refine ly_tbl (i := 0) (w := 109) x (by decide) (by decide) (by decide) d_JL1_indexOfChar_16 ?_
        refine dz_iload x.1 4 d_JL1_indexOfChar_17 rfl ?_
        refine dz_icmp_ne (tgt := 25) x.1 d_JL1_indexOfChar_19 (by decide) (by omega) (by omega) (fun hc6 => ?_) (fun hc6 => ?_)
        · refine dz_iinc (z := 3) (ls' := [(0, .ref (Dt (200 + 0))), (1, .int (dz_i c)), (2, .int (dz_i 0)), (3, .int (dz_i 5)), (4, .int (dz_i c)), (5, .int (dz_i 3))]) x.1 5 d_JL1_indexOfChar_25 rfl hN (by decide) (by omega) rfl ?_
          refine dz_goto (tgt := 7) x.1 d_JL1_indexOfChar_28 (by decide) ?_
          refine dz_iload x.1 5 d_JL1_indexOfChar_7 rfl ?_
          refine dz_iload_n x.1 3 d_JL1_indexOfChar_9 rfl rfl ?_
          refine dz_icmp_ge (tgt := 31) x.1 d_JL1_indexOfChar_10 (by decide) (by omega) (by omega) (fun hc7 => by exfalso; omega) (fun hc7 => ?_)
          refine dz_aload_n x.1 0 d_JL1_indexOfChar_13 rfl rfl ?_
          refine dz_iload x.1 5 d_JL1_indexOfChar_14 rfl ?_
          refine ly_tbl (i := 0) (w := 101) x (by decide) (by decide) (by decide) d_JL1_indexOfChar_16 ?_
          refine dz_iload x.1 4 d_JL1_indexOfChar_17 rfl ?_
          refine dz_icmp_ne (tgt := 25) x.1 d_JL1_indexOfChar_19 (by decide) (by omega) (by omega) (fun hc8 => ?_) (fun hc8 => ?_)
          · refine dz_iinc (z := 4) (ls' := [(0, .ref (Dt (200 + 0))), (1, .int (dz_i c)), (2, .int (dz_i 0)), (3, .int (dz_i 5)), (4, .int (dz_i c)), (5, .int (dz_i 4))]) x.1 5 d_JL1_indexOfChar_25 rfl hN (by decide) (by omega) rfl ?_
            refine dz_goto (tgt := 7) x.1 d_JL1_indexOfChar_28 (by decide) ?_
            refine dz_iload x.1 5 d_JL1_indexOfChar_7 rfl ?_
            refine dz_iload_n x.1 3 d_JL1_indexOfChar_9 rfl rfl ?_
            refine dz_icmp_ge (tgt := 31) x.1 d_JL1_indexOfChar_10 (by decide) (by omega) (by omega) (fun hc9 => by exfalso; omega) (fun hc9 => ?_)
            refine dz_aload_n x.1 0 d_JL1_indexOfChar_13 rfl rfl ?_
            refine dz_iload x.1 5 d_JL1_indexOfChar_14 rfl ?_
            refine ly_tbl (i := 0) (w := 97) x (by decide) (by decide) (by decide) d_JL1_indexOfChar_16 ?_
            refine dz_iload x.1 4 d_JL1_indexOfChar_17 rfl ?_
            refine dz_icmp_ne (tgt := 25) x.1 d_JL1_indexOfChar_19 (by decide) (by omega) (by omega) (fun hc10 => ?_) (fun hc10 => ?_)
            · refine dz_iinc (z := 5) (ls' := [(0, .ref (Dt (200 + 0))), (1, .int (dz_i c)), (2, .int (dz_i 0)), (3, .int (dz_i 5)), (4, .int (dz_i c)), (5, .int (dz_i 5))]) x.1 5 d_JL1_indexOfChar_25 rfl hN (by decide) (by omega) rfl ?_
              refine dz_goto (tgt := 7) x.1 d_JL1_indexOfChar_28 (by decide) ?_
              refine dz_iload x.1 5 d_JL1_indexOfChar_7 rfl ?_
              refine dz_iload_n x.1 3 d_JL1_indexOfChar_9 rfl rfl ?_
              refine dz_icmp_ge (tgt := 31) x.1 d_JL1_indexOfChar_10 (by decide) (by omega) (by omega) (fun hc11 => ?_) (fun hc11 => by exfalso; omega)
              refine dz_iconst x.1 d_JL1_indexOfChar_31 ?_
              exact ly_iret x d_JL1_indexOfChar_32 rfl ⟨by rw [sp_ixn0 (by omega)], rfl⟩
            · refine dz_iload x.1 5 d_JL1_indexOfChar_22 rfl ?_
              exact ly_iret x d_JL1_indexOfChar_24 rfl ⟨sp_f (k := 97) (by omega) rfl, rfl⟩
          · refine dz_iload x.1 5 d_JL1_indexOfChar_22 rfl ?_
            exact ly_iret x d_JL1_indexOfChar_24 rfl ⟨sp_f (k := 101) (by omega) rfl, rfl⟩
        · refine dz_iload x.1 5 d_JL1_indexOfChar_22 rfl ?_
          exact ly_iret x d_JL1_indexOfChar_24 rfl ⟨sp_f (k := 109) (by omega) rfl, rfl⟩
      · refine dz_iload x.1 5 d_JL1_indexOfChar_22 rfl ?_
        exact ly_iret x d_JL1_indexOfChar_24 rfl ⟨sp_f (k := 98) (by omega) rfl, rfl⟩
    · refine dz_iload x.1 5 d_JL1_indexOfChar_22 rfl ?_
      exact ly_iret x d_JL1_indexOfChar_24 rfl ⟨sp_f (k := 119) (by omega) rfl, rfl⟩
  · refine dz_iload_n x.1 1 d_JL1_indexOfChar_0 rfl rfl ?_
    refine ly_i2b (w := c - 256) x (by omega) (by rw [if_neg h8]) d_JL1_indexOfChar_1 ?_
    refine dz_istore (ls' := [(0, .ref (Dt (200 + 0))), (1, .int (dz_i c)), (2, .int (dz_i 0)), (3, .int (dz_i 5)), (4, .int (dz_i (c - 256)))]) x.1 d_JL1_indexOfChar_2 hN (by decide) rfl ?_
    refine dz_iload_n x.1 2 d_JL1_indexOfChar_4 rfl rfl ?_
    refine dz_istore (ls' := [(0, .ref (Dt (200 + 0))), (1, .int (dz_i c)), (2, .int (dz_i 0)), (3, .int (dz_i 5)), (4, .int (dz_i (c - 256))), (5, .int (dz_i 0))]) x.1 d_JL1_indexOfChar_5 hN (by decide) rfl ?_
    refine dz_iload x.1 5 d_JL1_indexOfChar_7 rfl ?_
    refine dz_iload_n x.1 3 d_JL1_indexOfChar_9 rfl rfl ?_
    refine dz_icmp_ge (tgt := 31) x.1 d_JL1_indexOfChar_10 (by decide) (by omega) (by omega) (fun hc1 => by exfalso; omega) (fun hc1 => ?_)
    refine dz_aload_n x.1 0 d_JL1_indexOfChar_13 rfl rfl ?_
    refine dz_iload x.1 5 d_JL1_indexOfChar_14 rfl ?_
    refine ly_tbl (i := 0) (w := 119) x (by decide) (by decide) (by decide) d_JL1_indexOfChar_16 ?_
    refine dz_iload x.1 4 d_JL1_indexOfChar_17 rfl ?_
    refine dz_icmp_ne (tgt := 25) x.1 d_JL1_indexOfChar_19 (by decide) (by omega) (by omega) (fun hc2 => ?_) (fun hc2 => ?_)
    · refine dz_iinc (z := 1) (ls' := [(0, .ref (Dt (200 + 0))), (1, .int (dz_i c)), (2, .int (dz_i 0)), (3, .int (dz_i 5)), (4, .int (dz_i (c - 256))), (5, .int (dz_i 1))]) x.1 5 d_JL1_indexOfChar_25 rfl hN (by decide) (by omega) rfl ?_
      refine dz_goto (tgt := 7) x.1 d_JL1_indexOfChar_28 (by decide) ?_
      refine dz_iload x.1 5 d_JL1_indexOfChar_7 rfl ?_
      refine dz_iload_n x.1 3 d_JL1_indexOfChar_9 rfl rfl ?_
      refine dz_icmp_ge (tgt := 31) x.1 d_JL1_indexOfChar_10 (by decide) (by omega) (by omega) (fun hc3 => by exfalso; omega) (fun hc3 => ?_)
      refine dz_aload_n x.1 0 d_JL1_indexOfChar_13 rfl rfl ?_
      refine dz_iload x.1 5 d_JL1_indexOfChar_14 rfl ?_
      refine ly_tbl (i := 0) (w := 98) x (by decide) (by decide) (by decide) d_JL1_indexOfChar_16 ?_
      refine dz_iload x.1 4 d_JL1_indexOfChar_17 rfl ?_
      refine dz_icmp_ne (tgt := 25) x.1 d_JL1_indexOfChar_19 (by decide) (by omega) (by omega) (fun hc4 => ?_) (fun hc4 => ?_)
      · refine dz_iinc (z := 2) (ls' := [(0, .ref (Dt (200 + 0))), (1, .int (dz_i c)), (2, .int (dz_i 0)), (3, .int (dz_i 5)), (4, .int (dz_i (c - 256))), (5, .int (dz_i 2))]) x.1 5 d_JL1_indexOfChar_25 rfl hN (by decide) (by omega) rfl ?_
        refine dz_goto (tgt := 7) x.1 d_JL1_indexOfChar_28 (by decide) ?_
        refine dz_iload x.1 5 d_JL1_indexOfChar_7 rfl ?_
        refine dz_iload_n x.1 3 d_JL1_indexOfChar_9 rfl rfl ?_
        refine dz_icmp_ge (tgt := 31) x.1 d_JL1_indexOfChar_10 (by decide) (by omega) (by omega) (fun hc5 => by exfalso; omega) (fun hc5 => ?_)
        refine dz_aload_n x.1 0 d_JL1_indexOfChar_13 rfl rfl ?_
        refine dz_iload x.1 5 d_JL1_indexOfChar_14 rfl ?_
        refine ly_tbl (i := 0) (w := 109) x (by decide) (by decide) (by decide) d_JL1_indexOfChar_16 ?_
        refine dz_iload x.1 4 d_JL1_indexOfChar_17 rfl ?_
        refine dz_icmp_ne (tgt := 25) x.1 d_JL1_indexOfChar_19 (by decide) (by omega) (by omega) (fun hc6 => ?_) (fun hc6 => ?_)
        · refine dz_iinc (z := 3) (ls' := [(0, .ref (Dt (200 + 0))), (1, .int (dz_i c)), (2, .int (dz_i 0)), (3, .int (dz_i 5)), (4, .int (dz_i (c - 256))), (5, .int (dz_i 3))]) x.1 5 d_JL1_indexOfChar_25 rfl hN (by decide) (by omega) rfl ?_
          refine dz_goto (tgt := 7) x.1 d_JL1_indexOfChar_28 (by decide) ?_
          refine dz_iload x.1 5 d_JL1_indexOfChar_7 rfl ?_
          refine dz_iload_n x.1 3 d_JL1_indexOfChar_9 rfl rfl ?_
          refine dz_icmp_ge (tgt := 31) x.1 d_JL1_indexOfChar_10 (by decide) (by omega) (by omega) (fun hc7 => by exfalso; omega) (fun hc7 => ?_)
          refine dz_aload_n x.1 0 d_JL1_indexOfChar_13 rfl rfl ?_
          refine dz_iload x.1 5 d_JL1_indexOfChar_14 rfl ?_
          refine ly_tbl (i := 0) (w := 101) x (by decide) (by decide) (by decide) d_JL1_indexOfChar_16 ?_
          refine dz_iload x.1 4 d_JL1_indexOfChar_17 rfl ?_
          refine dz_icmp_ne (tgt := 25) x.1 d_JL1_indexOfChar_19 (by decide) (by omega) (by omega) (fun hc8 => ?_) (fun hc8 => ?_)
          · refine dz_iinc (z := 4) (ls' := [(0, .ref (Dt (200 + 0))), (1, .int (dz_i c)), (2, .int (dz_i 0)), (3, .int (dz_i 5)), (4, .int (dz_i (c - 256))), (5, .int (dz_i 4))]) x.1 5 d_JL1_indexOfChar_25 rfl hN (by decide) (by omega) rfl ?_
            refine dz_goto (tgt := 7) x.1 d_JL1_indexOfChar_28 (by decide) ?_
            refine dz_iload x.1 5 d_JL1_indexOfChar_7 rfl ?_
            refine dz_iload_n x.1 3 d_JL1_indexOfChar_9 rfl rfl ?_
            refine dz_icmp_ge (tgt := 31) x.1 d_JL1_indexOfChar_10 (by decide) (by omega) (by omega) (fun hc9 => by exfalso; omega) (fun hc9 => ?_)
            refine dz_aload_n x.1 0 d_JL1_indexOfChar_13 rfl rfl ?_
            refine dz_iload x.1 5 d_JL1_indexOfChar_14 rfl ?_
            refine ly_tbl (i := 0) (w := 97) x (by decide) (by decide) (by decide) d_JL1_indexOfChar_16 ?_
            refine dz_iload x.1 4 d_JL1_indexOfChar_17 rfl ?_
            refine dz_icmp_ne (tgt := 25) x.1 d_JL1_indexOfChar_19 (by decide) (by omega) (by omega) (fun hc10 => ?_) (fun hc10 => ?_)
            · refine dz_iinc (z := 5) (ls' := [(0, .ref (Dt (200 + 0))), (1, .int (dz_i c)), (2, .int (dz_i 0)), (3, .int (dz_i 5)), (4, .int (dz_i (c - 256))), (5, .int (dz_i 5))]) x.1 5 d_JL1_indexOfChar_25 rfl hN (by decide) (by omega) rfl ?_
              refine dz_goto (tgt := 7) x.1 d_JL1_indexOfChar_28 (by decide) ?_
              refine dz_iload x.1 5 d_JL1_indexOfChar_7 rfl ?_
              refine dz_iload_n x.1 3 d_JL1_indexOfChar_9 rfl rfl ?_
              refine dz_icmp_ge (tgt := 31) x.1 d_JL1_indexOfChar_10 (by decide) (by omega) (by omega) (fun hc11 => ?_) (fun hc11 => by exfalso; omega)
              refine dz_iconst x.1 d_JL1_indexOfChar_31 ?_
              exact ly_iret x d_JL1_indexOfChar_32 rfl ⟨by rw [sp_ixn0 (by omega)], rfl⟩
            · refine dz_iload x.1 5 d_JL1_indexOfChar_22 rfl ?_
              exact ly_iret x d_JL1_indexOfChar_24 rfl ⟨sp_f (k := 97) (by omega) rfl, rfl⟩
          · refine dz_iload x.1 5 d_JL1_indexOfChar_22 rfl ?_
            exact ly_iret x d_JL1_indexOfChar_24 rfl ⟨sp_f (k := 101) (by omega) rfl, rfl⟩
        · refine dz_iload x.1 5 d_JL1_indexOfChar_22 rfl ?_
          exact ly_iret x d_JL1_indexOfChar_24 rfl ⟨sp_f (k := 109) (by omega) rfl, rfl⟩
      · refine dz_iload x.1 5 d_JL1_indexOfChar_22 rfl ?_
        exact ly_iret x d_JL1_indexOfChar_24 rfl ⟨sp_f (k := 98) (by omega) rfl, rfl⟩
    · refine dz_iload x.1 5 d_JL1_indexOfChar_22 rfl ?_
      exact ly_iret x d_JL1_indexOfChar_24 rfl ⟨sp_f (k := 119) (by omega) rfl, rfl⟩
set_option maxRecDepth 100000 in
set_option maxHeartbeats 4000000 in
theorem c_JL1_indexOfChar_1 (l : Launch) (D : va_G) (Dt : Nat → ClassId) (b sz : Nat) (I : dz_Hp) (c : Int) (hc : 0 ≤ c ∧ c < 256) : ly_M l D Dt b sz y_JL1_indexOfChar b_JL1_indexOfChar 6 (some .int) 1 [.ref (Dt (200 + 1)), .int (dz_i c), .int (dz_i 0), .int (dz_i 8)] I (fun v I' => v = some (.int (dz_i (sp_ix 1 c))) ∧ I' = I) := by
  refine ly_enter R_JL1 (by decide) rfl (Nat.le_of_ble_eq_true rfl) (ly_cat _ 0 rfl) (fun κ x => ?_)
  have hN := ly_N x
  show ly_V κ b sz I 0 [(0, .ref (Dt (200 + 1))), (1, .int (dz_i c)), (2, .int (dz_i 0)), (3, .int (dz_i 8))] []
  by_cases h8 : c < 128
  · refine dz_iload_n x.1 1 d_JL1_indexOfChar_0 rfl rfl ?_
    refine ly_i2b (w := c) x (by omega) (by rw [if_pos h8]) d_JL1_indexOfChar_1 ?_
    refine dz_istore (ls' := [(0, .ref (Dt (200 + 1))), (1, .int (dz_i c)), (2, .int (dz_i 0)), (3, .int (dz_i 8)), (4, .int (dz_i c))]) x.1 d_JL1_indexOfChar_2 hN (by decide) rfl ?_
    refine dz_iload_n x.1 2 d_JL1_indexOfChar_4 rfl rfl ?_
    refine dz_istore (ls' := [(0, .ref (Dt (200 + 1))), (1, .int (dz_i c)), (2, .int (dz_i 0)), (3, .int (dz_i 8)), (4, .int (dz_i c)), (5, .int (dz_i 0))]) x.1 d_JL1_indexOfChar_5 hN (by decide) rfl ?_
    refine dz_iload x.1 5 d_JL1_indexOfChar_7 rfl ?_
    refine dz_iload_n x.1 3 d_JL1_indexOfChar_9 rfl rfl ?_
    refine dz_icmp_ge (tgt := 31) x.1 d_JL1_indexOfChar_10 (by decide) (by omega) (by omega) (fun hc1 => by exfalso; omega) (fun hc1 => ?_)
    refine dz_aload_n x.1 0 d_JL1_indexOfChar_13 rfl rfl ?_
    refine dz_iload x.1 5 d_JL1_indexOfChar_14 rfl ?_
    refine ly_tbl (i := 1) (w := 46) x (by decide) (by decide) (by decide) d_JL1_indexOfChar_16 ?_
    refine dz_iload x.1 4 d_JL1_indexOfChar_17 rfl ?_
    refine dz_icmp_ne (tgt := 25) x.1 d_JL1_indexOfChar_19 (by decide) (by omega) (by omega) (fun hc2 => ?_) (fun hc2 => ?_)
    · refine dz_iinc (z := 1) (ls' := [(0, .ref (Dt (200 + 1))), (1, .int (dz_i c)), (2, .int (dz_i 0)), (3, .int (dz_i 8)), (4, .int (dz_i c)), (5, .int (dz_i 1))]) x.1 5 d_JL1_indexOfChar_25 rfl hN (by decide) (by omega) rfl ?_
      refine dz_goto (tgt := 7) x.1 d_JL1_indexOfChar_28 (by decide) ?_
      refine dz_iload x.1 5 d_JL1_indexOfChar_7 rfl ?_
      refine dz_iload_n x.1 3 d_JL1_indexOfChar_9 rfl rfl ?_
      refine dz_icmp_ge (tgt := 31) x.1 d_JL1_indexOfChar_10 (by decide) (by omega) (by omega) (fun hc3 => by exfalso; omega) (fun hc3 => ?_)
      refine dz_aload_n x.1 0 d_JL1_indexOfChar_13 rfl rfl ?_
      refine dz_iload x.1 5 d_JL1_indexOfChar_14 rfl ?_
      refine ly_tbl (i := 1) (w := 44) x (by decide) (by decide) (by decide) d_JL1_indexOfChar_16 ?_
      refine dz_iload x.1 4 d_JL1_indexOfChar_17 rfl ?_
      refine dz_icmp_ne (tgt := 25) x.1 d_JL1_indexOfChar_19 (by decide) (by omega) (by omega) (fun hc4 => ?_) (fun hc4 => ?_)
      · refine dz_iinc (z := 2) (ls' := [(0, .ref (Dt (200 + 1))), (1, .int (dz_i c)), (2, .int (dz_i 0)), (3, .int (dz_i 8)), (4, .int (dz_i c)), (5, .int (dz_i 2))]) x.1 5 d_JL1_indexOfChar_25 rfl hN (by decide) (by omega) rfl ?_
        refine dz_goto (tgt := 7) x.1 d_JL1_indexOfChar_28 (by decide) ?_
        refine dz_iload x.1 5 d_JL1_indexOfChar_7 rfl ?_
        refine dz_iload_n x.1 3 d_JL1_indexOfChar_9 rfl rfl ?_
        refine dz_icmp_ge (tgt := 31) x.1 d_JL1_indexOfChar_10 (by decide) (by omega) (by omega) (fun hc5 => by exfalso; omega) (fun hc5 => ?_)
        refine dz_aload_n x.1 0 d_JL1_indexOfChar_13 rfl rfl ?_
        refine dz_iload x.1 5 d_JL1_indexOfChar_14 rfl ?_
        refine ly_tbl (i := 1) (w := 59) x (by decide) (by decide) (by decide) d_JL1_indexOfChar_16 ?_
        refine dz_iload x.1 4 d_JL1_indexOfChar_17 rfl ?_
        refine dz_icmp_ne (tgt := 25) x.1 d_JL1_indexOfChar_19 (by decide) (by omega) (by omega) (fun hc6 => ?_) (fun hc6 => ?_)
        · refine dz_iinc (z := 3) (ls' := [(0, .ref (Dt (200 + 1))), (1, .int (dz_i c)), (2, .int (dz_i 0)), (3, .int (dz_i 8)), (4, .int (dz_i c)), (5, .int (dz_i 3))]) x.1 5 d_JL1_indexOfChar_25 rfl hN (by decide) (by omega) rfl ?_
          refine dz_goto (tgt := 7) x.1 d_JL1_indexOfChar_28 (by decide) ?_
          refine dz_iload x.1 5 d_JL1_indexOfChar_7 rfl ?_
          refine dz_iload_n x.1 3 d_JL1_indexOfChar_9 rfl rfl ?_
          refine dz_icmp_ge (tgt := 31) x.1 d_JL1_indexOfChar_10 (by decide) (by omega) (by omega) (fun hc7 => by exfalso; omega) (fun hc7 => ?_)
          refine dz_aload_n x.1 0 d_JL1_indexOfChar_13 rfl rfl ?_
          refine dz_iload x.1 5 d_JL1_indexOfChar_14 rfl ?_
          refine ly_tbl (i := 1) (w := 58) x (by decide) (by decide) (by decide) d_JL1_indexOfChar_16 ?_
          refine dz_iload x.1 4 d_JL1_indexOfChar_17 rfl ?_
          refine dz_icmp_ne (tgt := 25) x.1 d_JL1_indexOfChar_19 (by decide) (by omega) (by omega) (fun hc8 => ?_) (fun hc8 => ?_)
          · refine dz_iinc (z := 4) (ls' := [(0, .ref (Dt (200 + 1))), (1, .int (dz_i c)), (2, .int (dz_i 0)), (3, .int (dz_i 8)), (4, .int (dz_i c)), (5, .int (dz_i 4))]) x.1 5 d_JL1_indexOfChar_25 rfl hN (by decide) (by omega) rfl ?_
            refine dz_goto (tgt := 7) x.1 d_JL1_indexOfChar_28 (by decide) ?_
            refine dz_iload x.1 5 d_JL1_indexOfChar_7 rfl ?_
            refine dz_iload_n x.1 3 d_JL1_indexOfChar_9 rfl rfl ?_
            refine dz_icmp_ge (tgt := 31) x.1 d_JL1_indexOfChar_10 (by decide) (by omega) (by omega) (fun hc9 => by exfalso; omega) (fun hc9 => ?_)
            refine dz_aload_n x.1 0 d_JL1_indexOfChar_13 rfl rfl ?_
            refine dz_iload x.1 5 d_JL1_indexOfChar_14 rfl ?_
            refine ly_tbl (i := 1) (w := 63) x (by decide) (by decide) (by decide) d_JL1_indexOfChar_16 ?_
            refine dz_iload x.1 4 d_JL1_indexOfChar_17 rfl ?_
            refine dz_icmp_ne (tgt := 25) x.1 d_JL1_indexOfChar_19 (by decide) (by omega) (by omega) (fun hc10 => ?_) (fun hc10 => ?_)
            · refine dz_iinc (z := 5) (ls' := [(0, .ref (Dt (200 + 1))), (1, .int (dz_i c)), (2, .int (dz_i 0)), (3, .int (dz_i 8)), (4, .int (dz_i c)), (5, .int (dz_i 5))]) x.1 5 d_JL1_indexOfChar_25 rfl hN (by decide) (by omega) rfl ?_
              refine dz_goto (tgt := 7) x.1 d_JL1_indexOfChar_28 (by decide) ?_
              refine dz_iload x.1 5 d_JL1_indexOfChar_7 rfl ?_
              refine dz_iload_n x.1 3 d_JL1_indexOfChar_9 rfl rfl ?_
              refine dz_icmp_ge (tgt := 31) x.1 d_JL1_indexOfChar_10 (by decide) (by omega) (by omega) (fun hc11 => by exfalso; omega) (fun hc11 => ?_)
              refine dz_aload_n x.1 0 d_JL1_indexOfChar_13 rfl rfl ?_
              refine dz_iload x.1 5 d_JL1_indexOfChar_14 rfl ?_
              refine ly_tbl (i := 1) (w := 33) x (by decide) (by decide) (by decide) d_JL1_indexOfChar_16 ?_
              refine dz_iload x.1 4 d_JL1_indexOfChar_17 rfl ?_
              refine dz_icmp_ne (tgt := 25) x.1 d_JL1_indexOfChar_19 (by decide) (by omega) (by omega) (fun hc12 => ?_) (fun hc12 => ?_)
              · refine dz_iinc (z := 6) (ls' := [(0, .ref (Dt (200 + 1))), (1, .int (dz_i c)), (2, .int (dz_i 0)), (3, .int (dz_i 8)), (4, .int (dz_i c)), (5, .int (dz_i 6))]) x.1 5 d_JL1_indexOfChar_25 rfl hN (by decide) (by omega) rfl ?_
                refine dz_goto (tgt := 7) x.1 d_JL1_indexOfChar_28 (by decide) ?_
                refine dz_iload x.1 5 d_JL1_indexOfChar_7 rfl ?_
                refine dz_iload_n x.1 3 d_JL1_indexOfChar_9 rfl rfl ?_
                refine dz_icmp_ge (tgt := 31) x.1 d_JL1_indexOfChar_10 (by decide) (by omega) (by omega) (fun hc13 => by exfalso; omega) (fun hc13 => ?_)
                refine dz_aload_n x.1 0 d_JL1_indexOfChar_13 rfl rfl ?_
                refine dz_iload x.1 5 d_JL1_indexOfChar_14 rfl ?_
                refine ly_tbl (i := 1) (w := 45) x (by decide) (by decide) (by decide) d_JL1_indexOfChar_16 ?_
                refine dz_iload x.1 4 d_JL1_indexOfChar_17 rfl ?_
                refine dz_icmp_ne (tgt := 25) x.1 d_JL1_indexOfChar_19 (by decide) (by omega) (by omega) (fun hc14 => ?_) (fun hc14 => ?_)
                · refine dz_iinc (z := 7) (ls' := [(0, .ref (Dt (200 + 1))), (1, .int (dz_i c)), (2, .int (dz_i 0)), (3, .int (dz_i 8)), (4, .int (dz_i c)), (5, .int (dz_i 7))]) x.1 5 d_JL1_indexOfChar_25 rfl hN (by decide) (by omega) rfl ?_
                  refine dz_goto (tgt := 7) x.1 d_JL1_indexOfChar_28 (by decide) ?_
                  refine dz_iload x.1 5 d_JL1_indexOfChar_7 rfl ?_
                  refine dz_iload_n x.1 3 d_JL1_indexOfChar_9 rfl rfl ?_
                  refine dz_icmp_ge (tgt := 31) x.1 d_JL1_indexOfChar_10 (by decide) (by omega) (by omega) (fun hc15 => by exfalso; omega) (fun hc15 => ?_)
                  refine dz_aload_n x.1 0 d_JL1_indexOfChar_13 rfl rfl ?_
                  refine dz_iload x.1 5 d_JL1_indexOfChar_14 rfl ?_
                  refine ly_tbl (i := 1) (w := 39) x (by decide) (by decide) (by decide) d_JL1_indexOfChar_16 ?_
                  refine dz_iload x.1 4 d_JL1_indexOfChar_17 rfl ?_
                  refine dz_icmp_ne (tgt := 25) x.1 d_JL1_indexOfChar_19 (by decide) (by omega) (by omega) (fun hc16 => ?_) (fun hc16 => ?_)
                  · refine dz_iinc (z := 8) (ls' := [(0, .ref (Dt (200 + 1))), (1, .int (dz_i c)), (2, .int (dz_i 0)), (3, .int (dz_i 8)), (4, .int (dz_i c)), (5, .int (dz_i 8))]) x.1 5 d_JL1_indexOfChar_25 rfl hN (by decide) (by omega) rfl ?_
                    refine dz_goto (tgt := 7) x.1 d_JL1_indexOfChar_28 (by decide) ?_
                    refine dz_iload x.1 5 d_JL1_indexOfChar_7 rfl ?_
                    refine dz_iload_n x.1 3 d_JL1_indexOfChar_9 rfl rfl ?_
                    refine dz_icmp_ge (tgt := 31) x.1 d_JL1_indexOfChar_10 (by decide) (by omega) (by omega) (fun hc17 => ?_) (fun hc17 => by exfalso; omega)
                    refine dz_iconst x.1 d_JL1_indexOfChar_31 ?_
                    exact ly_iret x d_JL1_indexOfChar_32 rfl ⟨by rw [sp_ixn1 (by omega)], rfl⟩
                  · refine dz_iload x.1 5 d_JL1_indexOfChar_22 rfl ?_
                    exact ly_iret x d_JL1_indexOfChar_24 rfl ⟨sp_f (k := 39) (by omega) rfl, rfl⟩
                · refine dz_iload x.1 5 d_JL1_indexOfChar_22 rfl ?_
                  exact ly_iret x d_JL1_indexOfChar_24 rfl ⟨sp_f (k := 45) (by omega) rfl, rfl⟩
              · refine dz_iload x.1 5 d_JL1_indexOfChar_22 rfl ?_
                exact ly_iret x d_JL1_indexOfChar_24 rfl ⟨sp_f (k := 33) (by omega) rfl, rfl⟩
            · refine dz_iload x.1 5 d_JL1_indexOfChar_22 rfl ?_
              exact ly_iret x d_JL1_indexOfChar_24 rfl ⟨sp_f (k := 63) (by omega) rfl, rfl⟩
          · refine dz_iload x.1 5 d_JL1_indexOfChar_22 rfl ?_
            exact ly_iret x d_JL1_indexOfChar_24 rfl ⟨sp_f (k := 58) (by omega) rfl, rfl⟩
        · refine dz_iload x.1 5 d_JL1_indexOfChar_22 rfl ?_
          exact ly_iret x d_JL1_indexOfChar_24 rfl ⟨sp_f (k := 59) (by omega) rfl, rfl⟩
      · refine dz_iload x.1 5 d_JL1_indexOfChar_22 rfl ?_
        exact ly_iret x d_JL1_indexOfChar_24 rfl ⟨sp_f (k := 44) (by omega) rfl, rfl⟩
    · refine dz_iload x.1 5 d_JL1_indexOfChar_22 rfl ?_
      exact ly_iret x d_JL1_indexOfChar_24 rfl ⟨sp_f (k := 46) (by omega) rfl, rfl⟩
  · refine dz_iload_n x.1 1 d_JL1_indexOfChar_0 rfl rfl ?_
    refine ly_i2b (w := c - 256) x (by omega) (by rw [if_neg h8]) d_JL1_indexOfChar_1 ?_
    refine dz_istore (ls' := [(0, .ref (Dt (200 + 1))), (1, .int (dz_i c)), (2, .int (dz_i 0)), (3, .int (dz_i 8)), (4, .int (dz_i (c - 256)))]) x.1 d_JL1_indexOfChar_2 hN (by decide) rfl ?_
    refine dz_iload_n x.1 2 d_JL1_indexOfChar_4 rfl rfl ?_
    refine dz_istore (ls' := [(0, .ref (Dt (200 + 1))), (1, .int (dz_i c)), (2, .int (dz_i 0)), (3, .int (dz_i 8)), (4, .int (dz_i (c - 256))), (5, .int (dz_i 0))]) x.1 d_JL1_indexOfChar_5 hN (by decide) rfl ?_
    refine dz_iload x.1 5 d_JL1_indexOfChar_7 rfl ?_
    refine dz_iload_n x.1 3 d_JL1_indexOfChar_9 rfl rfl ?_
    refine dz_icmp_ge (tgt := 31) x.1 d_JL1_indexOfChar_10 (by decide) (by omega) (by omega) (fun hc1 => by exfalso; omega) (fun hc1 => ?_)
    refine dz_aload_n x.1 0 d_JL1_indexOfChar_13 rfl rfl ?_
    refine dz_iload x.1 5 d_JL1_indexOfChar_14 rfl ?_
    refine ly_tbl (i := 1) (w := 46) x (by decide) (by decide) (by decide) d_JL1_indexOfChar_16 ?_
    refine dz_iload x.1 4 d_JL1_indexOfChar_17 rfl ?_
    refine dz_icmp_ne (tgt := 25) x.1 d_JL1_indexOfChar_19 (by decide) (by omega) (by omega) (fun hc2 => ?_) (fun hc2 => ?_)
    · refine dz_iinc (z := 1) (ls' := [(0, .ref (Dt (200 + 1))), (1, .int (dz_i c)), (2, .int (dz_i 0)), (3, .int (dz_i 8)), (4, .int (dz_i (c - 256))), (5, .int (dz_i 1))]) x.1 5 d_JL1_indexOfChar_25 rfl hN (by decide) (by omega) rfl ?_
      refine dz_goto (tgt := 7) x.1 d_JL1_indexOfChar_28 (by decide) ?_
      refine dz_iload x.1 5 d_JL1_indexOfChar_7 rfl ?_
      refine dz_iload_n x.1 3 d_JL1_indexOfChar_9 rfl rfl ?_
      refine dz_icmp_ge (tgt := 31) x.1 d_JL1_indexOfChar_10 (by decide) (by omega) (by omega) (fun hc3 => by exfalso; omega) (fun hc3 => ?_)
      refine dz_aload_n x.1 0 d_JL1_indexOfChar_13 rfl rfl ?_
      refine dz_iload x.1 5 d_JL1_indexOfChar_14 rfl ?_
      refine ly_tbl (i := 1) (w := 44) x (by decide) (by decide) (by decide) d_JL1_indexOfChar_16 ?_
      refine dz_iload x.1 4 d_JL1_indexOfChar_17 rfl ?_
      refine dz_icmp_ne (tgt := 25) x.1 d_JL1_indexOfChar_19 (by decide) (by omega) (by omega) (fun hc4 => ?_) (fun hc4 => ?_)
      · refine dz_iinc (z := 2) (ls' := [(0, .ref (Dt (200 + 1))), (1, .int (dz_i c)), (2, .int (dz_i 0)), (3, .int (dz_i 8)), (4, .int (dz_i (c - 256))), (5, .int (dz_i 2))]) x.1 5 d_JL1_indexOfChar_25 rfl hN (by decide) (by omega) rfl ?_
        refine dz_goto (tgt := 7) x.1 d_JL1_indexOfChar_28 (by decide) ?_
        refine dz_iload x.1 5 d_JL1_indexOfChar_7 rfl ?_
        refine dz_iload_n x.1 3 d_JL1_indexOfChar_9 rfl rfl ?_
        refine dz_icmp_ge (tgt := 31) x.1 d_JL1_indexOfChar_10 (by decide) (by omega) (by omega) (fun hc5 => by exfalso; omega) (fun hc5 => ?_)
        refine dz_aload_n x.1 0 d_JL1_indexOfChar_13 rfl rfl ?_
        refine dz_iload x.1 5 d_JL1_indexOfChar_14 rfl ?_
        refine ly_tbl (i := 1) (w := 59) x (by decide) (by decide) (by decide) d_JL1_indexOfChar_16 ?_
        refine dz_iload x.1 4 d_JL1_indexOfChar_17 rfl ?_
        refine dz_icmp_ne (tgt := 25) x.1 d_JL1_indexOfChar_19 (by decide) (by omega) (by omega) (fun hc6 => ?_) (fun hc6 => ?_)
        · refine dz_iinc (z := 3) (ls' := [(0, .ref (Dt (200 + 1))), (1, .int (dz_i c)), (2, .int (dz_i 0)), (3, .int (dz_i 8)), (4, .int (dz_i (c - 256))), (5, .int (dz_i 3))]) x.1 5 d_JL1_indexOfChar_25 rfl hN (by decide) (by omega) rfl ?_
          refine dz_goto (tgt := 7) x.1 d_JL1_indexOfChar_28 (by decide) ?_
          refine dz_iload x.1 5 d_JL1_indexOfChar_7 rfl ?_
          refine dz_iload_n x.1 3 d_JL1_indexOfChar_9 rfl rfl ?_
          refine dz_icmp_ge (tgt := 31) x.1 d_JL1_indexOfChar_10 (by decide) (by omega) (by omega) (fun hc7 => by exfalso; omega) (fun hc7 => ?_)
          refine dz_aload_n x.1 0 d_JL1_indexOfChar_13 rfl rfl ?_
          refine dz_iload x.1 5 d_JL1_indexOfChar_14 rfl ?_
          refine ly_tbl (i := 1) (w := 58) x (by decide) (by decide) (by decide) d_JL1_indexOfChar_16 ?_
          refine dz_iload x.1 4 d_JL1_indexOfChar_17 rfl ?_
          refine dz_icmp_ne (tgt := 25) x.1 d_JL1_indexOfChar_19 (by decide) (by omega) (by omega) (fun hc8 => ?_) (fun hc8 => ?_)
          · refine dz_iinc (z := 4) (ls' := [(0, .ref (Dt (200 + 1))), (1, .int (dz_i c)), (2, .int (dz_i 0)), (3, .int (dz_i 8)), (4, .int (dz_i (c - 256))), (5, .int (dz_i 4))]) x.1 5 d_JL1_indexOfChar_25 rfl hN (by decide) (by omega) rfl ?_
            refine dz_goto (tgt := 7) x.1 d_JL1_indexOfChar_28 (by decide) ?_
            refine dz_iload x.1 5 d_JL1_indexOfChar_7 rfl ?_
            refine dz_iload_n x.1 3 d_JL1_indexOfChar_9 rfl rfl ?_
            refine dz_icmp_ge (tgt := 31) x.1 d_JL1_indexOfChar_10 (by decide) (by omega) (by omega) (fun hc9 => by exfalso; omega) (fun hc9 => ?_)
            refine dz_aload_n x.1 0 d_JL1_indexOfChar_13 rfl rfl ?_
            refine dz_iload x.1 5 d_JL1_indexOfChar_14 rfl ?_
            refine ly_tbl (i := 1) (w := 63) x (by decide) (by decide) (by decide) d_JL1_indexOfChar_16 ?_
            refine dz_iload x.1 4 d_JL1_indexOfChar_17 rfl ?_
            refine dz_icmp_ne (tgt := 25) x.1 d_JL1_indexOfChar_19 (by decide) (by omega) (by omega) (fun hc10 => ?_) (fun hc10 => ?_)
            · refine dz_iinc (z := 5) (ls' := [(0, .ref (Dt (200 + 1))), (1, .int (dz_i c)), (2, .int (dz_i 0)), (3, .int (dz_i 8)), (4, .int (dz_i (c - 256))), (5, .int (dz_i 5))]) x.1 5 d_JL1_indexOfChar_25 rfl hN (by decide) (by omega) rfl ?_
              refine dz_goto (tgt := 7) x.1 d_JL1_indexOfChar_28 (by decide) ?_
              refine dz_iload x.1 5 d_JL1_indexOfChar_7 rfl ?_
              refine dz_iload_n x.1 3 d_JL1_indexOfChar_9 rfl rfl ?_
              refine dz_icmp_ge (tgt := 31) x.1 d_JL1_indexOfChar_10 (by decide) (by omega) (by omega) (fun hc11 => by exfalso; omega) (fun hc11 => ?_)
              refine dz_aload_n x.1 0 d_JL1_indexOfChar_13 rfl rfl ?_
              refine dz_iload x.1 5 d_JL1_indexOfChar_14 rfl ?_
              refine ly_tbl (i := 1) (w := 33) x (by decide) (by decide) (by decide) d_JL1_indexOfChar_16 ?_
              refine dz_iload x.1 4 d_JL1_indexOfChar_17 rfl ?_
              refine dz_icmp_ne (tgt := 25) x.1 d_JL1_indexOfChar_19 (by decide) (by omega) (by omega) (fun hc12 => ?_) (fun hc12 => ?_)
              · refine dz_iinc (z := 6) (ls' := [(0, .ref (Dt (200 + 1))), (1, .int (dz_i c)), (2, .int (dz_i 0)), (3, .int (dz_i 8)), (4, .int (dz_i (c - 256))), (5, .int (dz_i 6))]) x.1 5 d_JL1_indexOfChar_25 rfl hN (by decide) (by omega) rfl ?_
                refine dz_goto (tgt := 7) x.1 d_JL1_indexOfChar_28 (by decide) ?_
                refine dz_iload x.1 5 d_JL1_indexOfChar_7 rfl ?_
                refine dz_iload_n x.1 3 d_JL1_indexOfChar_9 rfl rfl ?_
                refine dz_icmp_ge (tgt := 31) x.1 d_JL1_indexOfChar_10 (by decide) (by omega) (by omega) (fun hc13 => by exfalso; omega) (fun hc13 => ?_)
                refine dz_aload_n x.1 0 d_JL1_indexOfChar_13 rfl rfl ?_
                refine dz_iload x.1 5 d_JL1_indexOfChar_14 rfl ?_
                refine ly_tbl (i := 1) (w := 45) x (by decide) (by decide) (by decide) d_JL1_indexOfChar_16 ?_
                refine dz_iload x.1 4 d_JL1_indexOfChar_17 rfl ?_
                refine dz_icmp_ne (tgt := 25) x.1 d_JL1_indexOfChar_19 (by decide) (by omega) (by omega) (fun hc14 => ?_) (fun hc14 => ?_)
                · refine dz_iinc (z := 7) (ls' := [(0, .ref (Dt (200 + 1))), (1, .int (dz_i c)), (2, .int (dz_i 0)), (3, .int (dz_i 8)), (4, .int (dz_i (c - 256))), (5, .int (dz_i 7))]) x.1 5 d_JL1_indexOfChar_25 rfl hN (by decide) (by omega) rfl ?_
                  refine dz_goto (tgt := 7) x.1 d_JL1_indexOfChar_28 (by decide) ?_
                  refine dz_iload x.1 5 d_JL1_indexOfChar_7 rfl ?_
                  refine dz_iload_n x.1 3 d_JL1_indexOfChar_9 rfl rfl ?_
                  refine dz_icmp_ge (tgt := 31) x.1 d_JL1_indexOfChar_10 (by decide) (by omega) (by omega) (fun hc15 => by exfalso; omega) (fun hc15 => ?_)
                  refine dz_aload_n x.1 0 d_JL1_indexOfChar_13 rfl rfl ?_
                  refine dz_iload x.1 5 d_JL1_indexOfChar_14 rfl ?_
                  refine ly_tbl (i := 1) (w := 39) x (by decide) (by decide) (by decide) d_JL1_indexOfChar_16 ?_
                  refine dz_iload x.1 4 d_JL1_indexOfChar_17 rfl ?_
                  refine dz_icmp_ne (tgt := 25) x.1 d_JL1_indexOfChar_19 (by decide) (by omega) (by omega) (fun hc16 => ?_) (fun hc16 => ?_)
                  · refine dz_iinc (z := 8) (ls' := [(0, .ref (Dt (200 + 1))), (1, .int (dz_i c)), (2, .int (dz_i 0)), (3, .int (dz_i 8)), (4, .int (dz_i (c - 256))), (5, .int (dz_i 8))]) x.1 5 d_JL1_indexOfChar_25 rfl hN (by decide) (by omega) rfl ?_
                    refine dz_goto (tgt := 7) x.1 d_JL1_indexOfChar_28 (by decide) ?_
                    refine dz_iload x.1 5 d_JL1_indexOfChar_7 rfl ?_
                    refine dz_iload_n x.1 3 d_JL1_indexOfChar_9 rfl rfl ?_
                    refine dz_icmp_ge (tgt := 31) x.1 d_JL1_indexOfChar_10 (by decide) (by omega) (by omega) (fun hc17 => ?_) (fun hc17 => by exfalso; omega)
                    refine dz_iconst x.1 d_JL1_indexOfChar_31 ?_
                    exact ly_iret x d_JL1_indexOfChar_32 rfl ⟨by rw [sp_ixn1 (by omega)], rfl⟩
                  · refine dz_iload x.1 5 d_JL1_indexOfChar_22 rfl ?_
                    exact ly_iret x d_JL1_indexOfChar_24 rfl ⟨sp_f (k := 39) (by omega) rfl, rfl⟩
                · refine dz_iload x.1 5 d_JL1_indexOfChar_22 rfl ?_
                  exact ly_iret x d_JL1_indexOfChar_24 rfl ⟨sp_f (k := 45) (by omega) rfl, rfl⟩
              · refine dz_iload x.1 5 d_JL1_indexOfChar_22 rfl ?_
                exact ly_iret x d_JL1_indexOfChar_24 rfl ⟨sp_f (k := 33) (by omega) rfl, rfl⟩
            · refine dz_iload x.1 5 d_JL1_indexOfChar_22 rfl ?_
              exact ly_iret x d_JL1_indexOfChar_24 rfl ⟨sp_f (k := 63) (by omega) rfl, rfl⟩
          · refine dz_iload x.1 5 d_JL1_indexOfChar_22 rfl ?_
            exact ly_iret x d_JL1_indexOfChar_24 rfl ⟨sp_f (k := 58) (by omega) rfl, rfl⟩
        · refine dz_iload x.1 5 d_JL1_indexOfChar_22 rfl ?_
          exact ly_iret x d_JL1_indexOfChar_24 rfl ⟨sp_f (k := 59) (by omega) rfl, rfl⟩
      · refine dz_iload x.1 5 d_JL1_indexOfChar_22 rfl ?_
        exact ly_iret x d_JL1_indexOfChar_24 rfl ⟨sp_f (k := 44) (by omega) rfl, rfl⟩
    · refine dz_iload x.1 5 d_JL1_indexOfChar_22 rfl ?_
      exact ly_iret x d_JL1_indexOfChar_24 rfl ⟨sp_f (k := 46) (by omega) rfl, rfl⟩
set_option maxRecDepth 100000 in
set_option maxHeartbeats 4000000 in
theorem c_JStr_isLatin1_0 (l : Launch) (D : va_G) (Dt : Nat → ClassId) (b sz : Nat) (I : dz_Hp)  : ly_M l D Dt b sz y_JStr_isLatin1 b_JStr_isLatin1 1 (some .boolean) 1 [.ref (Dt (100 + 0))] I (fun v I' => v = some (.int (dz_i 1)) ∧ I' = I) := by
  refine ly_enter R_JStr (by decide) rfl (Nat.le_of_ble_eq_true rfl) (ly_cat _ 0 rfl) (fun κ x => ?_)
  have hN := ly_N x
  show ly_V κ b sz I 0 [(0, .ref (Dt (100 + 0)))] []
  refine ly_getsC x sl_JStr_38 d_JStr_isLatin1_0 ?_
  refine dz_if_eq (tgt := 17) x.1 d_JStr_isLatin1_3 (by decide) (by omega) (fun hc1 => by exfalso; omega) (fun hc1 => ?_)
  refine dz_aload_n x.1 0 d_JStr_isLatin1_6 rfl rfl ?_
  refine ly_gfc (i := 0) x (by decide) sl_JStr_15 d_JStr_isLatin1_7 ?_
  refine dz_if_ne (tgt := 17) x.1 d_JStr_isLatin1_10 (by decide) (by omega) (fun hc2 => by exfalso; omega) (fun hc2 => ?_)
  refine dz_iconst x.1 d_JStr_isLatin1_13 ?_
  refine dz_goto (tgt := 18) x.1 d_JStr_isLatin1_14 (by decide) ?_
  exact ly_iret x d_JStr_isLatin1_18 (dz_nbo (by omega)) ⟨rfl, rfl⟩
set_option maxRecDepth 100000 in
set_option maxHeartbeats 4000000 in
theorem c_JStr_coder_0 (l : Launch) (D : va_G) (Dt : Nat → ClassId) (b sz : Nat) (I : dz_Hp)  : ly_M l D Dt b sz y_JStr_coder b_JStr_coder 1 (some .byte) 1 [.ref (Dt (100 + 0))] I (fun v I' => v = some (.int (dz_i 0)) ∧ I' = I) := by
  refine ly_enter R_JStr (by decide) rfl (Nat.le_of_ble_eq_true rfl) (ly_cat _ 0 rfl) (fun κ x => ?_)
  have hN := ly_N x
  show ly_V κ b sz I 0 [(0, .ref (Dt (100 + 0)))] []
  refine ly_getsC x sl_JStr_38 d_JStr_coder_0 ?_
  refine dz_if_eq (tgt := 13) x.1 d_JStr_coder_3 (by decide) (by omega) (fun hc1 => by exfalso; omega) (fun hc1 => ?_)
  refine dz_aload_n x.1 0 d_JStr_coder_6 rfl rfl ?_
  refine ly_gfc (i := 0) x (by decide) sl_JStr_15 d_JStr_coder_7 ?_
  refine dz_goto (tgt := 14) x.1 d_JStr_coder_10 (by decide) ?_
  exact ly_iret x d_JStr_coder_14 (by decide) ⟨rfl, rfl⟩
set_option maxRecDepth 100000 in
set_option maxHeartbeats 4000000 in
theorem c_JStr_length_0 (l : Launch) (D : va_G) (Dt : Nat → ClassId) (b sz : Nat) (I : dz_Hp)  : ly_M l D Dt b sz y_JStr_length b_JStr_length 1 (some .int) 2 [.ref (Dt (100 + 0))] I (fun v I' => v = some (.int (dz_i 5)) ∧ I' = I) := by
  refine ly_enter R_JStr (by decide) rfl (Nat.le_of_ble_eq_true rfl) (ly_cat _ 0 rfl) (fun κ x => ?_)
  have hN := ly_N x
  show ly_V κ b sz I 0 [(0, .ref (Dt (100 + 0)))] []
  refine dz_aload_n x.1 0 d_JStr_length_0 rfl rfl ?_
  refine ly_gfv (i := 0) x (by decide) sl_JStr_9 d_JStr_length_1 ?_
  refine ly_tbn (i := 0) (w := 5) x (by decide) (by decide) d_JStr_length_4 ?_
  refine dz_aload_n x.1 0 d_JStr_length_5 rfl rfl ?_
  refine ly_callT (i := 0) (rest := [.int (dz_i 5)]) x cl_JStr_335 (by decide) (c_JStr_coder_0 l D Dt b sz I) (by decide) rfl rfl rfl (Nat.le_of_ble_eq_true rfl) d_JStr_length_6 (fun v I' hp1 => ?_)
  obtain ⟨rfl, hp1I⟩ := hp1
  have hp1I := hp1I.symm
  subst hp1I
  show ly_V κ b sz I 9 [(0, .ref (Dt (100 + 0)))] [.int (dz_i 0), .int (dz_i 5)]
  refine ly_ishr x d_JStr_length_9 ?_
  exact ly_iret x d_JStr_length_10 rfl ⟨rfl, rfl⟩
set_option maxRecDepth 100000 in
set_option maxHeartbeats 4000000 in
theorem c_JL1_indexOf_0 (l : Launch) (D : va_G) (Dt : Nat → ClassId) (b sz : Nat) (I : dz_Hp) (c : Int) (hc : 0 ≤ c ∧ c < 65536) : ly_M l D Dt b sz y_JL1_indexOf b_JL1_indexOf 4 (some .int) 2 [.ref (Dt (200 + 0)), .int (dz_i c), .int (dz_i 0), .int (dz_i 5)] I (fun v I' => v = some (.int (dz_i (sp_ix 0 c))) ∧ I' = I) := by
  refine ly_enter R_JL1 (by decide) rfl (Nat.le_of_ble_eq_true rfl) (ly_cat _ 0 rfl) (fun κ x => ?_)
  have hN := ly_N x
  show ly_V κ b sz I 0 [(0, .ref (Dt (200 + 0))), (1, .int (dz_i c)), (2, .int (dz_i 0)), (3, .int (dz_i 5))] []
  by_cases h8 : c ≤ 255
  · refine dz_iload_n x.1 1 d_JL1_indexOf_0 rfl rfl ?_
    refine ly_callS (rest := []) x cl_JL1_88 (c_JL1_canEncode l D Dt b sz I c hc) (by decide) rfl rfl (Nat.le_of_ble_eq_true rfl) d_JL1_indexOf_1 (fun v I' hp1 => ?_)
    obtain ⟨rfl, hp1I⟩ := hp1
    have hp1I := hp1I.symm
    subst hp1I
    rw [if_pos h8]
    show ly_V κ b sz I 4 [(0, .ref (Dt (200 + 0))), (1, .int (dz_i c)), (2, .int (dz_i 0)), (3, .int (dz_i 5))] [.int (dz_i 1)]
    refine dz_if_ne (tgt := 9) x.1 d_JL1_indexOf_4 (by decide) (by omega) (fun hc2 => ?_) (fun hc2 => by exfalso; omega)
    refine dz_iload_n x.1 2 d_JL1_indexOf_9 rfl rfl ?_
    refine dz_iconst x.1 d_JL1_indexOf_10 ?_
    refine ly_max (u := 0) x ml_JL1_92 (by decide) (Nat.le_of_ble_eq_true rfl) (by omega) (by omega) (by decide) d_JL1_indexOf_11 ?_
    refine dz_istore_n (ls' := [(0, .ref (Dt (200 + 0))), (1, .int (dz_i c)), (2, .int (dz_i 0)), (3, .int (dz_i 5))]) x.1 d_JL1_indexOf_14 rfl hN (by decide) rfl ?_
    refine dz_iload_n x.1 3 d_JL1_indexOf_15 rfl rfl ?_
    refine dz_aload_n x.1 0 d_JL1_indexOf_16 rfl rfl ?_
    refine ly_tbn (i := 0) (w := 5) x (by decide) (by decide) d_JL1_indexOf_17 ?_
    refine ly_min (u := 5) x ml_JL1_38 (by decide) (Nat.le_of_ble_eq_true rfl) (by omega) (by omega) (by decide) d_JL1_indexOf_18 ?_
    refine dz_istore_n (ls' := [(0, .ref (Dt (200 + 0))), (1, .int (dz_i c)), (2, .int (dz_i 0)), (3, .int (dz_i 5))]) x.1 d_JL1_indexOf_21 rfl hN (by decide) rfl ?_
    refine dz_iload_n x.1 2 d_JL1_indexOf_22 rfl rfl ?_
    refine dz_iload_n x.1 3 d_JL1_indexOf_23 rfl rfl ?_
    refine dz_icmp_lt (tgt := 29) x.1 d_JL1_indexOf_24 (by decide) (by omega) (by omega) (fun hc3 => ?_) (fun hc3 => by exfalso; omega)
    refine dz_aload_n x.1 0 d_JL1_indexOf_29 rfl rfl ?_
    refine dz_iload_n x.1 1 d_JL1_indexOf_30 rfl rfl ?_
    refine dz_iload_n x.1 2 d_JL1_indexOf_31 rfl rfl ?_
    refine dz_iload_n x.1 3 d_JL1_indexOf_32 rfl rfl ?_
    refine ly_callS (rest := []) x cl_JL1_95 (c_JL1_indexOfChar_0 l D Dt b sz I c (by omega)) (by decide) rfl rfl (Nat.le_of_ble_eq_true rfl) d_JL1_indexOf_33 (fun v I' hp4 => ?_)
    obtain ⟨rfl, hp4I⟩ := hp4
    have hp4I := hp4I.symm
    subst hp4I
    show ly_V κ b sz I 36 [(0, .ref (Dt (200 + 0))), (1, .int (dz_i c)), (2, .int (dz_i 0)), (3, .int (dz_i 5))] [.int (dz_i (sp_ix 0 c))]
    exact ly_iret x d_JL1_indexOf_36 rfl ⟨rfl, rfl⟩
  · refine dz_iload_n x.1 1 d_JL1_indexOf_0 rfl rfl ?_
    refine ly_callS (rest := []) x cl_JL1_88 (c_JL1_canEncode l D Dt b sz I c hc) (by decide) rfl rfl (Nat.le_of_ble_eq_true rfl) d_JL1_indexOf_1 (fun v I' hp1 => ?_)
    obtain ⟨rfl, hp1I⟩ := hp1
    have hp1I := hp1I.symm
    subst hp1I
    rw [if_neg h8]
    show ly_V κ b sz I 4 [(0, .ref (Dt (200 + 0))), (1, .int (dz_i c)), (2, .int (dz_i 0)), (3, .int (dz_i 5))] [.int (dz_i 0)]
    refine dz_if_ne (tgt := 9) x.1 d_JL1_indexOf_4 (by decide) (by omega) (fun hc2 => by exfalso; omega) (fun hc2 => ?_)
    refine dz_iconst x.1 d_JL1_indexOf_7 ?_
    exact ly_iret x d_JL1_indexOf_8 rfl ⟨by rw [sp_ixn0 (by omega)], rfl⟩
set_option maxRecDepth 100000 in
set_option maxHeartbeats 4000000 in
theorem c_JStr_indexOf2_0 (l : Launch) (D : va_G) (Dt : Nat → ClassId) (b sz : Nat) (I : dz_Hp) (c : Int) (hc : 0 ≤ c ∧ c < 65536) : ly_M l D Dt b sz y_JStr_indexOf2 b_JStr_indexOf2 3 (some .int) 3 [.ref (Dt (100 + 0)), .int (dz_i c), .int (dz_i 0)] I (fun v I' => v = some (.int (dz_i (sp_ix 0 c))) ∧ I' = I) := by
  refine ly_enter R_JStr (by decide) rfl (Nat.le_of_ble_eq_true rfl) (ly_cat _ 0 rfl) (fun κ x => ?_)
  have hN := ly_N x
  show ly_V κ b sz I 0 [(0, .ref (Dt (100 + 0))), (1, .int (dz_i c)), (2, .int (dz_i 0))] []
  refine dz_aload_n x.1 0 d_JStr_indexOf2_0 rfl rfl ?_
  refine ly_callT (i := 0) (rest := []) x cl_JStr_492 (by decide) (c_JStr_isLatin1_0 l D Dt b sz I) (by decide) rfl rfl rfl (Nat.le_of_ble_eq_true rfl) d_JStr_indexOf2_1 (fun v I' hp1 => ?_)
  obtain ⟨rfl, hp1I⟩ := hp1
  have hp1I := hp1I.symm
  subst hp1I
  show ly_V κ b sz I 4 [(0, .ref (Dt (100 + 0))), (1, .int (dz_i c)), (2, .int (dz_i 0))] [.int (dz_i 1)]
  refine dz_if_eq (tgt := 23) x.1 d_JStr_indexOf2_4 (by decide) (by omega) (fun hc2 => by exfalso; omega) (fun hc2 => ?_)
  refine dz_aload_n x.1 0 d_JStr_indexOf2_7 rfl rfl ?_
  refine ly_gfv (i := 0) x (by decide) sl_JStr_9 d_JStr_indexOf2_8 ?_
  refine dz_iload_n x.1 1 d_JStr_indexOf2_11 rfl rfl ?_
  refine dz_iload_n x.1 2 d_JStr_indexOf2_12 rfl rfl ?_
  refine dz_aload_n x.1 0 d_JStr_indexOf2_13 rfl rfl ?_
  refine ly_callT (i := 0) (rest := [.int (dz_i 0), .int (dz_i c), .ref (Dt (200 + 0))]) x cl_JStr_505 (by decide) (c_JStr_length_0 l D Dt b sz I) (by decide) rfl rfl rfl (Nat.le_of_ble_eq_true rfl) d_JStr_indexOf2_14 (fun v I' hp3 => ?_)
  obtain ⟨rfl, hp3I⟩ := hp3
  have hp3I := hp3I.symm
  subst hp3I
  show ly_V κ b sz I 17 [(0, .ref (Dt (100 + 0))), (1, .int (dz_i c)), (2, .int (dz_i 0))] [.int (dz_i 5), .int (dz_i 0), .int (dz_i c), .ref (Dt (200 + 0))]
  refine ly_callS (rest := []) x cl_JStr_637 (c_JL1_indexOf_0 l D Dt b sz I c hc) (by decide) rfl rfl (Nat.le_of_ble_eq_true rfl) d_JStr_indexOf2_17 (fun v I' hp4 => ?_)
  obtain ⟨rfl, hp4I⟩ := hp4
  have hp4I := hp4I.symm
  subst hp4I
  show ly_V κ b sz I 20 [(0, .ref (Dt (100 + 0))), (1, .int (dz_i c)), (2, .int (dz_i 0))] [.int (dz_i (sp_ix 0 c))]
  refine dz_goto (tgt := 36) x.1 d_JStr_indexOf2_20 (by decide) ?_
  exact ly_iret x d_JStr_indexOf2_36 rfl ⟨rfl, rfl⟩
set_option maxRecDepth 100000 in
set_option maxHeartbeats 4000000 in
theorem c_JStr_indexOf_0 (l : Launch) (D : va_G) (Dt : Nat → ClassId) (b sz : Nat) (I : dz_Hp) (c : Int) (hc : 0 ≤ c ∧ c < 65536) : ly_M l D Dt b sz y_JStr_indexOf b_JStr_indexOf 2 (some .int) 4 [.ref (Dt (100 + 0)), .int (dz_i c)] I (fun v I' => v = some (.int (dz_i (sp_ix 0 c))) ∧ I' = I) := by
  refine ly_enter R_JStr (by decide) rfl (Nat.le_of_ble_eq_true rfl) (ly_cat _ 0 rfl) (fun κ x => ?_)
  have hN := ly_N x
  show ly_V κ b sz I 0 [(0, .ref (Dt (100 + 0))), (1, .int (dz_i c))] []
  refine dz_aload_n x.1 0 d_JStr_indexOf_0 rfl rfl ?_
  refine dz_iload_n x.1 1 d_JStr_indexOf_1 rfl rfl ?_
  refine dz_iconst x.1 d_JStr_indexOf_2 ?_
  refine ly_callT (i := 0) (rest := []) x cl_JStr_633 (by decide) (c_JStr_indexOf2_0 l D Dt b sz I c hc) (by decide) rfl rfl rfl (Nat.le_of_ble_eq_true rfl) d_JStr_indexOf_3 (fun v I' hp1 => ?_)
  obtain ⟨rfl, hp1I⟩ := hp1
  have hp1I := hp1I.symm
  subst hp1I
  show ly_V κ b sz I 6 [(0, .ref (Dt (100 + 0))), (1, .int (dz_i c))] [.int (dz_i (sp_ix 0 c))]
  exact ly_iret x d_JStr_indexOf_6 rfl ⟨rfl, rfl⟩
set_option maxRecDepth 100000 in
set_option maxHeartbeats 4000000 in
theorem c_JStr_isLatin1_1 (l : Launch) (D : va_G) (Dt : Nat → ClassId) (b sz : Nat) (I : dz_Hp)  : ly_M l D Dt b sz y_JStr_isLatin1 b_JStr_isLatin1 1 (some .boolean) 1 [.ref (Dt (100 + 1))] I (fun v I' => v = some (.int (dz_i 1)) ∧ I' = I) := by
  refine ly_enter R_JStr (by decide) rfl (Nat.le_of_ble_eq_true rfl) (ly_cat _ 0 rfl) (fun κ x => ?_)
  have hN := ly_N x
  show ly_V κ b sz I 0 [(0, .ref (Dt (100 + 1)))] []
  refine ly_getsC x sl_JStr_38 d_JStr_isLatin1_0 ?_
  refine dz_if_eq (tgt := 17) x.1 d_JStr_isLatin1_3 (by decide) (by omega) (fun hc1 => by exfalso; omega) (fun hc1 => ?_)
  refine dz_aload_n x.1 0 d_JStr_isLatin1_6 rfl rfl ?_
  refine ly_gfc (i := 1) x (by decide) sl_JStr_15 d_JStr_isLatin1_7 ?_
  refine dz_if_ne (tgt := 17) x.1 d_JStr_isLatin1_10 (by decide) (by omega) (fun hc2 => by exfalso; omega) (fun hc2 => ?_)
  refine dz_iconst x.1 d_JStr_isLatin1_13 ?_
  refine dz_goto (tgt := 18) x.1 d_JStr_isLatin1_14 (by decide) ?_
  exact ly_iret x d_JStr_isLatin1_18 (dz_nbo (by omega)) ⟨rfl, rfl⟩
set_option maxRecDepth 100000 in
set_option maxHeartbeats 4000000 in
theorem c_JStr_coder_1 (l : Launch) (D : va_G) (Dt : Nat → ClassId) (b sz : Nat) (I : dz_Hp)  : ly_M l D Dt b sz y_JStr_coder b_JStr_coder 1 (some .byte) 1 [.ref (Dt (100 + 1))] I (fun v I' => v = some (.int (dz_i 0)) ∧ I' = I) := by
  refine ly_enter R_JStr (by decide) rfl (Nat.le_of_ble_eq_true rfl) (ly_cat _ 0 rfl) (fun κ x => ?_)
  have hN := ly_N x
  show ly_V κ b sz I 0 [(0, .ref (Dt (100 + 1)))] []
  refine ly_getsC x sl_JStr_38 d_JStr_coder_0 ?_
  refine dz_if_eq (tgt := 13) x.1 d_JStr_coder_3 (by decide) (by omega) (fun hc1 => by exfalso; omega) (fun hc1 => ?_)
  refine dz_aload_n x.1 0 d_JStr_coder_6 rfl rfl ?_
  refine ly_gfc (i := 1) x (by decide) sl_JStr_15 d_JStr_coder_7 ?_
  refine dz_goto (tgt := 14) x.1 d_JStr_coder_10 (by decide) ?_
  exact ly_iret x d_JStr_coder_14 (by decide) ⟨rfl, rfl⟩
set_option maxRecDepth 100000 in
set_option maxHeartbeats 4000000 in
theorem c_JStr_length_1 (l : Launch) (D : va_G) (Dt : Nat → ClassId) (b sz : Nat) (I : dz_Hp)  : ly_M l D Dt b sz y_JStr_length b_JStr_length 1 (some .int) 2 [.ref (Dt (100 + 1))] I (fun v I' => v = some (.int (dz_i 8)) ∧ I' = I) := by
  refine ly_enter R_JStr (by decide) rfl (Nat.le_of_ble_eq_true rfl) (ly_cat _ 0 rfl) (fun κ x => ?_)
  have hN := ly_N x
  show ly_V κ b sz I 0 [(0, .ref (Dt (100 + 1)))] []
  refine dz_aload_n x.1 0 d_JStr_length_0 rfl rfl ?_
  refine ly_gfv (i := 1) x (by decide) sl_JStr_9 d_JStr_length_1 ?_
  refine ly_tbn (i := 1) (w := 8) x (by decide) (by decide) d_JStr_length_4 ?_
  refine dz_aload_n x.1 0 d_JStr_length_5 rfl rfl ?_
  refine ly_callT (i := 1) (rest := [.int (dz_i 8)]) x cl_JStr_335 (by decide) (c_JStr_coder_1 l D Dt b sz I) (by decide) rfl rfl rfl (Nat.le_of_ble_eq_true rfl) d_JStr_length_6 (fun v I' hp1 => ?_)
  obtain ⟨rfl, hp1I⟩ := hp1
  have hp1I := hp1I.symm
  subst hp1I
  show ly_V κ b sz I 9 [(0, .ref (Dt (100 + 1)))] [.int (dz_i 0), .int (dz_i 8)]
  refine ly_ishr x d_JStr_length_9 ?_
  exact ly_iret x d_JStr_length_10 rfl ⟨rfl, rfl⟩
set_option maxRecDepth 100000 in
set_option maxHeartbeats 4000000 in
theorem c_JL1_indexOf_1 (l : Launch) (D : va_G) (Dt : Nat → ClassId) (b sz : Nat) (I : dz_Hp) (c : Int) (hc : 0 ≤ c ∧ c < 65536) : ly_M l D Dt b sz y_JL1_indexOf b_JL1_indexOf 4 (some .int) 2 [.ref (Dt (200 + 1)), .int (dz_i c), .int (dz_i 0), .int (dz_i 8)] I (fun v I' => v = some (.int (dz_i (sp_ix 1 c))) ∧ I' = I) := by
  refine ly_enter R_JL1 (by decide) rfl (Nat.le_of_ble_eq_true rfl) (ly_cat _ 0 rfl) (fun κ x => ?_)
  have hN := ly_N x
  show ly_V κ b sz I 0 [(0, .ref (Dt (200 + 1))), (1, .int (dz_i c)), (2, .int (dz_i 0)), (3, .int (dz_i 8))] []
  by_cases h8 : c ≤ 255
  · refine dz_iload_n x.1 1 d_JL1_indexOf_0 rfl rfl ?_
    refine ly_callS (rest := []) x cl_JL1_88 (c_JL1_canEncode l D Dt b sz I c hc) (by decide) rfl rfl (Nat.le_of_ble_eq_true rfl) d_JL1_indexOf_1 (fun v I' hp1 => ?_)
    obtain ⟨rfl, hp1I⟩ := hp1
    have hp1I := hp1I.symm
    subst hp1I
    rw [if_pos h8]
    show ly_V κ b sz I 4 [(0, .ref (Dt (200 + 1))), (1, .int (dz_i c)), (2, .int (dz_i 0)), (3, .int (dz_i 8))] [.int (dz_i 1)]
    refine dz_if_ne (tgt := 9) x.1 d_JL1_indexOf_4 (by decide) (by omega) (fun hc2 => ?_) (fun hc2 => by exfalso; omega)
    refine dz_iload_n x.1 2 d_JL1_indexOf_9 rfl rfl ?_
    refine dz_iconst x.1 d_JL1_indexOf_10 ?_
    refine ly_max (u := 0) x ml_JL1_92 (by decide) (Nat.le_of_ble_eq_true rfl) (by omega) (by omega) (by decide) d_JL1_indexOf_11 ?_
    refine dz_istore_n (ls' := [(0, .ref (Dt (200 + 1))), (1, .int (dz_i c)), (2, .int (dz_i 0)), (3, .int (dz_i 8))]) x.1 d_JL1_indexOf_14 rfl hN (by decide) rfl ?_
    refine dz_iload_n x.1 3 d_JL1_indexOf_15 rfl rfl ?_
    refine dz_aload_n x.1 0 d_JL1_indexOf_16 rfl rfl ?_
    refine ly_tbn (i := 1) (w := 8) x (by decide) (by decide) d_JL1_indexOf_17 ?_
    refine ly_min (u := 8) x ml_JL1_38 (by decide) (Nat.le_of_ble_eq_true rfl) (by omega) (by omega) (by decide) d_JL1_indexOf_18 ?_
    refine dz_istore_n (ls' := [(0, .ref (Dt (200 + 1))), (1, .int (dz_i c)), (2, .int (dz_i 0)), (3, .int (dz_i 8))]) x.1 d_JL1_indexOf_21 rfl hN (by decide) rfl ?_
    refine dz_iload_n x.1 2 d_JL1_indexOf_22 rfl rfl ?_
    refine dz_iload_n x.1 3 d_JL1_indexOf_23 rfl rfl ?_
    refine dz_icmp_lt (tgt := 29) x.1 d_JL1_indexOf_24 (by decide) (by omega) (by omega) (fun hc3 => ?_) (fun hc3 => by exfalso; omega)
    refine dz_aload_n x.1 0 d_JL1_indexOf_29 rfl rfl ?_
    refine dz_iload_n x.1 1 d_JL1_indexOf_30 rfl rfl ?_
    refine dz_iload_n x.1 2 d_JL1_indexOf_31 rfl rfl ?_
    refine dz_iload_n x.1 3 d_JL1_indexOf_32 rfl rfl ?_
    refine ly_callS (rest := []) x cl_JL1_95 (c_JL1_indexOfChar_1 l D Dt b sz I c (by omega)) (by decide) rfl rfl (Nat.le_of_ble_eq_true rfl) d_JL1_indexOf_33 (fun v I' hp4 => ?_)
    obtain ⟨rfl, hp4I⟩ := hp4
    have hp4I := hp4I.symm
    subst hp4I
    show ly_V κ b sz I 36 [(0, .ref (Dt (200 + 1))), (1, .int (dz_i c)), (2, .int (dz_i 0)), (3, .int (dz_i 8))] [.int (dz_i (sp_ix 1 c))]
    exact ly_iret x d_JL1_indexOf_36 rfl ⟨rfl, rfl⟩
  · refine dz_iload_n x.1 1 d_JL1_indexOf_0 rfl rfl ?_
    refine ly_callS (rest := []) x cl_JL1_88 (c_JL1_canEncode l D Dt b sz I c hc) (by decide) rfl rfl (Nat.le_of_ble_eq_true rfl) d_JL1_indexOf_1 (fun v I' hp1 => ?_)
    obtain ⟨rfl, hp1I⟩ := hp1
    have hp1I := hp1I.symm
    subst hp1I
    rw [if_neg h8]
    show ly_V κ b sz I 4 [(0, .ref (Dt (200 + 1))), (1, .int (dz_i c)), (2, .int (dz_i 0)), (3, .int (dz_i 8))] [.int (dz_i 0)]
    refine dz_if_ne (tgt := 9) x.1 d_JL1_indexOf_4 (by decide) (by omega) (fun hc2 => by exfalso; omega) (fun hc2 => ?_)
    refine dz_iconst x.1 d_JL1_indexOf_7 ?_
    exact ly_iret x d_JL1_indexOf_8 rfl ⟨by rw [sp_ixn1 (by omega)], rfl⟩
set_option maxRecDepth 100000 in
set_option maxHeartbeats 4000000 in
theorem c_JStr_indexOf2_1 (l : Launch) (D : va_G) (Dt : Nat → ClassId) (b sz : Nat) (I : dz_Hp) (c : Int) (hc : 0 ≤ c ∧ c < 65536) : ly_M l D Dt b sz y_JStr_indexOf2 b_JStr_indexOf2 3 (some .int) 3 [.ref (Dt (100 + 1)), .int (dz_i c), .int (dz_i 0)] I (fun v I' => v = some (.int (dz_i (sp_ix 1 c))) ∧ I' = I) := by
  refine ly_enter R_JStr (by decide) rfl (Nat.le_of_ble_eq_true rfl) (ly_cat _ 0 rfl) (fun κ x => ?_)
  have hN := ly_N x
  show ly_V κ b sz I 0 [(0, .ref (Dt (100 + 1))), (1, .int (dz_i c)), (2, .int (dz_i 0))] []
  refine dz_aload_n x.1 0 d_JStr_indexOf2_0 rfl rfl ?_
  refine ly_callT (i := 1) (rest := []) x cl_JStr_492 (by decide) (c_JStr_isLatin1_1 l D Dt b sz I) (by decide) rfl rfl rfl (Nat.le_of_ble_eq_true rfl) d_JStr_indexOf2_1 (fun v I' hp1 => ?_)
  obtain ⟨rfl, hp1I⟩ := hp1
  have hp1I := hp1I.symm
  subst hp1I
  show ly_V κ b sz I 4 [(0, .ref (Dt (100 + 1))), (1, .int (dz_i c)), (2, .int (dz_i 0))] [.int (dz_i 1)]
  refine dz_if_eq (tgt := 23) x.1 d_JStr_indexOf2_4 (by decide) (by omega) (fun hc2 => by exfalso; omega) (fun hc2 => ?_)
  refine dz_aload_n x.1 0 d_JStr_indexOf2_7 rfl rfl ?_
  refine ly_gfv (i := 1) x (by decide) sl_JStr_9 d_JStr_indexOf2_8 ?_
  refine dz_iload_n x.1 1 d_JStr_indexOf2_11 rfl rfl ?_
  refine dz_iload_n x.1 2 d_JStr_indexOf2_12 rfl rfl ?_
  refine dz_aload_n x.1 0 d_JStr_indexOf2_13 rfl rfl ?_
  refine ly_callT (i := 1) (rest := [.int (dz_i 0), .int (dz_i c), .ref (Dt (200 + 1))]) x cl_JStr_505 (by decide) (c_JStr_length_1 l D Dt b sz I) (by decide) rfl rfl rfl (Nat.le_of_ble_eq_true rfl) d_JStr_indexOf2_14 (fun v I' hp3 => ?_)
  obtain ⟨rfl, hp3I⟩ := hp3
  have hp3I := hp3I.symm
  subst hp3I
  show ly_V κ b sz I 17 [(0, .ref (Dt (100 + 1))), (1, .int (dz_i c)), (2, .int (dz_i 0))] [.int (dz_i 8), .int (dz_i 0), .int (dz_i c), .ref (Dt (200 + 1))]
  refine ly_callS (rest := []) x cl_JStr_637 (c_JL1_indexOf_1 l D Dt b sz I c hc) (by decide) rfl rfl (Nat.le_of_ble_eq_true rfl) d_JStr_indexOf2_17 (fun v I' hp4 => ?_)
  obtain ⟨rfl, hp4I⟩ := hp4
  have hp4I := hp4I.symm
  subst hp4I
  show ly_V κ b sz I 20 [(0, .ref (Dt (100 + 1))), (1, .int (dz_i c)), (2, .int (dz_i 0))] [.int (dz_i (sp_ix 1 c))]
  refine dz_goto (tgt := 36) x.1 d_JStr_indexOf2_20 (by decide) ?_
  exact ly_iret x d_JStr_indexOf2_36 rfl ⟨rfl, rfl⟩
set_option maxRecDepth 100000 in
set_option maxHeartbeats 4000000 in
theorem c_JStr_indexOf_1 (l : Launch) (D : va_G) (Dt : Nat → ClassId) (b sz : Nat) (I : dz_Hp) (c : Int) (hc : 0 ≤ c ∧ c < 65536) : ly_M l D Dt b sz y_JStr_indexOf b_JStr_indexOf 2 (some .int) 4 [.ref (Dt (100 + 1)), .int (dz_i c)] I (fun v I' => v = some (.int (dz_i (sp_ix 1 c))) ∧ I' = I) := by
  refine ly_enter R_JStr (by decide) rfl (Nat.le_of_ble_eq_true rfl) (ly_cat _ 0 rfl) (fun κ x => ?_)
  have hN := ly_N x
  show ly_V κ b sz I 0 [(0, .ref (Dt (100 + 1))), (1, .int (dz_i c))] []
  refine dz_aload_n x.1 0 d_JStr_indexOf_0 rfl rfl ?_
  refine dz_iload_n x.1 1 d_JStr_indexOf_1 rfl rfl ?_
  refine dz_iconst x.1 d_JStr_indexOf_2 ?_
  refine ly_callT (i := 1) (rest := []) x cl_JStr_633 (by decide) (c_JStr_indexOf2_1 l D Dt b sz I c hc) (by decide) rfl rfl rfl (Nat.le_of_ble_eq_true rfl) d_JStr_indexOf_3 (fun v I' hp1 => ?_)
  obtain ⟨rfl, hp1I⟩ := hp1
  have hp1I := hp1I.symm
  subst hp1I
  show ly_V κ b sz I 6 [(0, .ref (Dt (100 + 1))), (1, .int (dz_i c))] [.int (dz_i (sp_ix 1 c))]
  exact ly_iret x d_JStr_indexOf_6 rfl ⟨rfl, rfl⟩
set_option maxRecDepth 100000 in
set_option maxHeartbeats 4000000 in
theorem c_JPre_checkIndex_n (l : Launch) (D : va_G) (Dt : Nat → ClassId) (b sz : Nat) (I : dz_Hp) (z n : Int) (hz : 0 ≤ z ∧ z < n ∧ n < 2147483648) : ly_M l D Dt b sz y_JPre_checkIndex b_JPre_checkIndex 3 (some .int) 1 [.int (dz_i z), .int (dz_i n), .null] I (fun v I' => v = some (.int (dz_i z)) ∧ I' = I) := by
  refine ly_enter R_JPre (by decide) rfl (Nat.le_of_ble_eq_true rfl) (ly_cat _ 0 rfl) (fun κ x => ?_)
  have hN := ly_N x
  show ly_V κ b sz I 0 [(0, .int (dz_i z)), (1, .int (dz_i n)), (2, .null)] []
  refine dz_iload_n x.1 0 d_JPre_checkIndex_0 rfl rfl ?_
  refine dz_if_lt (tgt := 9) x.1 d_JPre_checkIndex_1 (by decide) (by omega) (fun hc1 => by exfalso; omega) (fun hc1 => ?_)
  refine dz_iload_n x.1 0 d_JPre_checkIndex_4 rfl rfl ?_
  refine dz_iload_n x.1 1 d_JPre_checkIndex_5 rfl rfl ?_
  refine dz_icmp_lt (tgt := 16) x.1 d_JPre_checkIndex_6 (by decide) (by omega) (by omega) (fun hc2 => ?_) (fun hc2 => by exfalso; omega)
  refine dz_iload_n x.1 0 d_JPre_checkIndex_16 rfl rfl ?_
  exact ly_iret x d_JPre_checkIndex_17 rfl ⟨rfl, rfl⟩
set_option maxRecDepth 100000 in
set_option maxHeartbeats 4000000 in
theorem c_JPre_checkIndex_r (l : Launch) (D : va_G) (Dt : Nat → ClassId) (b sz : Nat) (I : dz_Hp) (t : Nat) (z n : Int) (hz : 0 ≤ z ∧ z < n ∧ n < 2147483648) : ly_M l D Dt b sz y_JPre_checkIndex b_JPre_checkIndex 3 (some .int) 1 [.int (dz_i z), .int (dz_i n), .ref t] I (fun v I' => v = some (.int (dz_i z)) ∧ I' = I) := by
  refine ly_enter R_JPre (by decide) rfl (Nat.le_of_ble_eq_true rfl) (ly_cat _ 0 rfl) (fun κ x => ?_)
  have hN := ly_N x
  show ly_V κ b sz I 0 [(0, .int (dz_i z)), (1, .int (dz_i n)), (2, .ref t)] []
  refine dz_iload_n x.1 0 d_JPre_checkIndex_0 rfl rfl ?_
  refine dz_if_lt (tgt := 9) x.1 d_JPre_checkIndex_1 (by decide) (by omega) (fun hc1 => by exfalso; omega) (fun hc1 => ?_)
  refine dz_iload_n x.1 0 d_JPre_checkIndex_4 rfl rfl ?_
  refine dz_iload_n x.1 1 d_JPre_checkIndex_5 rfl rfl ?_
  refine dz_icmp_lt (tgt := 16) x.1 d_JPre_checkIndex_6 (by decide) (by omega) (by omega) (fun hc2 => ?_) (fun hc2 => by exfalso; omega)
  refine dz_iload_n x.1 0 d_JPre_checkIndex_16 rfl rfl ?_
  exact ly_iret x d_JPre_checkIndex_17 rfl ⟨rfl, rfl⟩
set_option maxRecDepth 100000 in
set_option maxHeartbeats 4000000 in
theorem c_JStr_checkIndex (l : Launch) (D : va_G) (Dt : Nat → ClassId) (b sz : Nat) (I : dz_Hp) (z n : Int) (hz : 0 ≤ z ∧ z < n ∧ n < 2147483648) : ly_M l D Dt b sz y_JStr_checkIndex b_JStr_checkIndex 2 none 2 [.int (dz_i z), .int (dz_i n)] I (fun v I' => v = none ∧ I' = I) := by
  refine ly_enter R_JStr (by decide) rfl (Nat.le_of_ble_eq_true rfl) (ly_cat _ 0 rfl) (fun κ x => ?_)
  have hN := ly_N x
  show ly_V κ b sz I 0 [(0, .int (dz_i z)), (1, .int (dz_i n))] []
  refine dz_iload_n x.1 0 d_JStr_checkIndex_0 rfl rfl ?_
  refine dz_iload_n x.1 1 d_JStr_checkIndex_1 rfl rfl ?_
  refine ly_getsF x sl_JStr_1053 d_JStr_checkIndex_2 (fun w hw => ?_)
  rcases hw with rfl | ⟨t, rfl⟩
  · refine ly_callS (rest := []) x cl_JStr_1059 (c_JPre_checkIndex_n l D Dt b sz I z n hz) (by decide) rfl rfl (Nat.le_of_ble_eq_true rfl) d_JStr_checkIndex_5 (fun v I' hp1 => ?_)
    obtain ⟨rfl, hp1I⟩ := hp1
    have hp1I := hp1I.symm
    subst hp1I
    show ly_V κ b sz I 8 [(0, .int (dz_i z)), (1, .int (dz_i n))] [.int (dz_i z)]
    refine dz_pop x.1 d_JStr_checkIndex_8 rfl ?_
    exact ly_vret x d_JStr_checkIndex_9 ⟨rfl, rfl⟩
  · refine ly_callS (rest := []) x cl_JStr_1059 (c_JPre_checkIndex_r l D Dt b sz I t z n hz) (by decide) rfl rfl (Nat.le_of_ble_eq_true rfl) d_JStr_checkIndex_5 (fun v I' hp2 => ?_)
    obtain ⟨rfl, hp2I⟩ := hp2
    have hp2I := hp2I.symm
    subst hp2I
    show ly_V κ b sz I 8 [(0, .int (dz_i z)), (1, .int (dz_i n))] [.int (dz_i z)]
    refine dz_pop x.1 d_JStr_checkIndex_8 rfl ?_
    exact ly_vret x d_JStr_checkIndex_9 ⟨rfl, rfl⟩
theorem sp_sb_rng : ∀ i : Nat, i < 2 → ∀ z : Int, 0 ≤ sp_sb i z ∧ sp_sb i z < 128 := by
  intro i hi z
  unfold sp_sb
  by_cases h : z.toNat < 8
  · have key : ∀ n : Nat, n < 8 → ∀ i : Nat, i < 2 → 0 ≤ ((if i = 0 then [119, 98, 109, 101, 97] else [46, 44, 59, 58, 63, 33, 45, 39]) : List Int).getD n 0 ∧ ((if i = 0 then [119, 98, 109, 101, 97] else [46, 44, 59, 58, 63, 33, 45, 39]) : List Int).getD n 0 < 128 := by decide +kernel
    exact key _ h i hi
  · rw [List.getD_eq_getElem?_getD, List.getElem?_eq_none (by split <;> simp <;> omega)]
    simp
theorem sp_255 {z : Int} (h : 0 ≤ z ∧ z < 128) : dz_i z &&& dz_i 255 = dz_i z := by
  have key : ∀ n : Nat, n < 128 → dz_i (n : Int) &&& dz_i 255 = dz_i (n : Int) := by decide +kernel
  have h2 := key z.toNat (by omega)
  rw [show ((z.toNat : Nat) : Int) = z by omega] at h2
  exact h2
set_option maxRecDepth 100000 in
set_option maxHeartbeats 4000000 in
theorem c_JL1_charAt (l : Launch) (D : va_G) (Dt : Nat → ClassId) (b sz : Nat) (I : dz_Hp) (z : Int) (hz : 0 ≤ z ∧ z < 8) : ly_M l D Dt b sz y_JL1_charAt b_JL1_charAt 2 (some .char) 3 [.ref (Dt (200 + 1)), .int (dz_i z)] I (fun v I' => v = some (.int (dz_i (sp_sb 1 z))) ∧ I' = I) := by
  refine ly_enter R_JL1 (by decide) rfl (Nat.le_of_ble_eq_true rfl) (ly_cat _ 0 rfl) (fun κ x => ?_)
  have hN := ly_N x
  have hr := sp_sb_rng 1 (by decide) z
  show ly_V κ b sz I 0 [(0, .ref (Dt (200 + 1))), (1, .int (dz_i z))] []
  refine dz_iload_n x.1 1 d_JL1_charAt_0 rfl rfl ?_
  refine dz_aload_n x.1 0 d_JL1_charAt_1 rfl rfl ?_
  refine ly_tbn (i := 1) (w := 8) x (by decide) (by decide) d_JL1_charAt_2 ?_
  refine ly_callS (rest := []) x cl_JL1_9 (c_JStr_checkIndex l D Dt b sz I z 8 (by omega)) (by decide) rfl rfl (Nat.le_of_ble_eq_true rfl) d_JL1_charAt_3 (fun v I' hp1 => ?_)
  obtain ⟨rfl, hp1I⟩ := hp1
  have hp1I := hp1I.symm
  subst hp1I
  show ly_V κ b sz I 6 [(0, .ref (Dt (200 + 1))), (1, .int (dz_i z))] []
  refine dz_aload_n x.1 0 d_JL1_charAt_6 rfl rfl ?_
  refine dz_iload_n x.1 1 d_JL1_charAt_7 rfl rfl ?_
  refine ly_tbl (i := 1) (w := (sp_sb 1 z)) x (by decide) (by show _ ∧ _ < ((8 : Nat) : Int); omega) rfl d_JL1_charAt_8 ?_
  refine dz_sipush x.1 d_JL1_charAt_9 (by decide) ?_
  refine dz_iand (z := (sp_sb 1 z)) x.1 d_JL1_charAt_12 (sp_255 hr) ?_
  refine dz_i2c x.1 d_JL1_charAt_13 (by omega) ?_
  exact ly_iret x d_JL1_charAt_14 (dz_nch (by omega)) ⟨rfl, rfl⟩
set_option maxRecDepth 100000 in
set_option maxHeartbeats 4000000 in
theorem c_JStr_charAt (l : Launch) (D : va_G) (Dt : Nat → ClassId) (b sz : Nat) (I : dz_Hp) (z : Int) (hz : 0 ≤ z ∧ z < 8) : ly_M l D Dt b sz y_JStr_charAt b_JStr_charAt 2 (some .char) 4 [.ref (Dt (100 + 1)), .int (dz_i z)] I (fun v I' => v = some (.int (dz_i (sp_sb 1 z))) ∧ I' = I) := by
  refine ly_enter R_JStr (by decide) rfl (Nat.le_of_ble_eq_true rfl) (ly_cat _ 0 rfl) (fun κ x => ?_)
  have hN := ly_N x
  have hr := sp_sb_rng 1 (by decide) z
  show ly_V κ b sz I 0 [(0, .ref (Dt (100 + 1))), (1, .int (dz_i z))] []
  refine dz_aload_n x.1 0 d_JStr_charAt_0 rfl rfl ?_
  refine ly_callT (i := 1) (rest := []) x cl_JStr_492 (by decide) (c_JStr_isLatin1_1 l D Dt b sz I) (by decide) rfl rfl rfl (Nat.le_of_ble_eq_true rfl) d_JStr_charAt_1 (fun v I' hp1 => ?_)
  obtain ⟨rfl, hp1I⟩ := hp1
  have hp1I := hp1I.symm
  subst hp1I
  show ly_V κ b sz I 4 [(0, .ref (Dt (100 + 1))), (1, .int (dz_i z))] [.int (dz_i 1)]
  refine dz_if_eq (tgt := 16) x.1 d_JStr_charAt_4 (by decide) (by omega) (fun hc2 => by exfalso; omega) (fun hc2 => ?_)
  refine dz_aload_n x.1 0 d_JStr_charAt_7 rfl rfl ?_
  refine ly_gfv (i := 1) x (by decide) sl_JStr_9 d_JStr_charAt_8 ?_
  refine dz_iload_n x.1 1 d_JStr_charAt_11 rfl rfl ?_
  refine ly_callS (rest := []) x cl_JStr_495 (c_JL1_charAt l D Dt b sz I z hz) (by decide) rfl rfl (Nat.le_of_ble_eq_true rfl) d_JStr_charAt_12 (fun v I' hp3 => ?_)
  obtain ⟨rfl, hp3I⟩ := hp3
  have hp3I := hp3I.symm
  subst hp3I
  show ly_V κ b sz I 15 [(0, .ref (Dt (100 + 1))), (1, .int (dz_i z))] [.int (dz_i (sp_sb 1 z))]
  exact ly_iret x d_JStr_charAt_15 (dz_nch (by omega)) ⟨rfl, rfl⟩
end
section
theorem dz_br (P : Prop) [Decidable P] : -2147483648 ≤ (if P then (1 : Int) else 0) ∧ (if P then (1 : Int) else 0) < 2147483648 := by split <;> omega
theorem dz_b01 (P : Prop) [Decidable P] : (if P then (1 : Int) else 0) = 0 ∨ (if P then (1 : Int) else 0) = 1 := by split <;> omega
theorem dz_bt {P : Prop} [Decidable P] (h : ¬ (if P then (1 : Int) else 0) = 0) : P := by
  by_cases hp : P
  · exact hp
  · rw [if_neg hp] at h; exact absurd rfl h
theorem dz_bf {P : Prop} [Decidable P] (h : (if P then (1 : Int) else 0) = 0) : ¬ P := by
  intro hp
  rw [if_pos hp] at h; omega
section ly_tc
variable {κ : dz_Kx} {l : Launch} {D : va_G} {Dt : Nat → ClassId} {b sz : Nat} {cc : ByteArray} {own : String} {nL : Nat} {ret : Option FieldType} {d : Nat} {post : Option Value → dz_Hp → Prop} {I : dz_Hp} {pc : Nat} {ls : List (Nat × Value)} {st : List Value}
theorem ly_tldcL (x : ly_X κ l D Dt b sz cc own nL ret d post) {z w : Int} (hi : 0 ≤ z ∧ z < 26) (hw : sp_lc z = w) (hd : decode cc pc = .ok (.iaload, 1)) (kk : ly_V κ b sz I (pc + 1) ls (.int (dz_i w) :: st)) : ly_V κ b sz I pc ls (.int (dz_i z) :: .ref (Dt 300) :: st) := by subst hw; exact ly_tldL x hi hd kk
theorem ly_tldcM (x : ly_X κ l D Dt b sz cc own nL ret d post) {z w : Int} (hi : 0 ≤ z ∧ z < 8) (hw : sp_mc z = w) (hd : decode cc pc = .ok (.iaload, 1)) (kk : ly_V κ b sz I (pc + 1) ls (.int (dz_i w) :: st)) : ly_V κ b sz I pc ls (.int (dz_i z) :: .ref (Dt 301) :: st) := by subst hw; exact ly_tldM x hi hd kk
end ly_tc
def sp_small (c : Int) : Int := if 65 ≤ c ∧ c ≤ 90 then c + 32 else c
def sp_big (c : Int) : Int := if 97 ≤ c ∧ c ≤ 122 then c - 32 else c
/-- the cell of a character -/
def sp_cell (c : Int) : Int := if (97 ≤ c ∧ c ≤ 122) ∨ (65 ≤ c ∧ c ≤ 90) then sp_lc (sp_small c - 97) else if 48 ≤ c ∧ c ≤ 57 then (if c = 48 then 26 else sp_lc (c - 49)) else if 0 ≤ sp_ix 1 c then sp_mc (sp_ix 1 c) else 0
/-- the digit of a cell, or '#' -/
def sp_dig (x : Int) : Int := if x = 1 then 49 else if x = 3 then 50 else if x = 9 then 51 else if x = 25 then 52 else if x = 17 then 53 else if x = 11 then 54 else if x = 27 then 55 else if x = 19 then 56 else if x = 10 then 57 else if x = 26 then 48 else 35
/-- the character of a cell, or '#' -/
def sp_chr (x : Int) : Int := ([35, 97, 44, 98, 39, 107, 59, 108, 35, 99, 105, 102, 35, 109, 115, 112, 35, 101, 58, 104, 35, 111, 33, 114, 35, 100, 106, 103, 35, 110, 116, 113, 35, 35, 35, 35, 45, 117, 63, 118, 35, 35, 35, 35, 35, 120, 35, 35, 35, 35, 46, 35, 35, 122, 35, 35, 35, 35, 119, 35, 35, 121, 35, 35] : List Int).getD x.toNat 35
theorem sp_lc_rng (z : Int) : 0 ≤ sp_lc z ∧ sp_lc z < 64 := by
  unfold sp_lc
  by_cases h : z.toNat < 26
  · have key : ∀ n : Nat, n < 26 → 0 ≤ ([1, 3, 9, 25, 17, 11, 27, 19, 10, 26, 5, 7, 13, 29, 21, 15, 31, 23, 14, 30, 37, 39, 58, 45, 61, 53] : List Int).getD n 0 ∧ ([1, 3, 9, 25, 17, 11, 27, 19, 10, 26, 5, 7, 13, 29, 21, 15, 31, 23, 14, 30, 37, 39, 58, 45, 61, 53] : List Int).getD n 0 < 64 := by decide +kernel
    exact key _ h
  · rw [List.getD_eq_getElem?_getD, List.getElem?_eq_none (by simp; omega)]
    simp
theorem sp_mc_rng (z : Int) : 0 ≤ sp_mc z ∧ sp_mc z < 64 := by
  unfold sp_mc
  by_cases h : z.toNat < 8
  · have key : ∀ n : Nat, n < 8 → 0 ≤ ([50, 2, 6, 18, 38, 22, 36, 4] : List Int).getD n 0 ∧ ([50, 2, 6, 18, 38, 22, 36, 4] : List Int).getD n 0 < 64 := by decide +kernel
    exact key _ h
  · rw [List.getD_eq_getElem?_getD, List.getElem?_eq_none (by simp; omega)]
    simp
theorem sp_cell_rng (c : Int) : 0 ≤ sp_cell c ∧ sp_cell c < 64 := by
  unfold sp_cell
  have h1 := sp_lc_rng (sp_small c - 97)
  have h2 := sp_lc_rng (c - 49)
  have h3 := sp_mc_rng (sp_ix 1 c)
  (repeat' split) <;> omega
theorem sp_chr_f {x k r : Int} (h : x = k) (hk : sp_chr k = r) : some (Value.int (dz_i r)) = some (Value.int (dz_i (sp_chr x))) := by subst h; rw [hk]
theorem sp_dig_f {x k r : Int} (h : x = k) (hk : sp_dig k = r) : some (Value.int (dz_i r)) = some (Value.int (dz_i (sp_dig x))) := by subst h; rw [hk]
theorem sp_dig_no {x : Int} (h : x ≠ 1 ∧ x ≠ 3 ∧ x ≠ 9 ∧ x ≠ 25 ∧ x ≠ 17 ∧ x ≠ 11 ∧ x ≠ 27 ∧ x ≠ 19 ∧ x ≠ 10 ∧ x ≠ 26) : sp_dig x = 35 := by
  unfold sp_dig
  obtain ⟨h0, h1, h2, h3, h4, h5, h6, h7, h8, h9⟩ := h
  rw [if_neg h0, if_neg h1, if_neg h2, if_neg h3, if_neg h4, if_neg h5, if_neg h6, if_neg h7, if_neg h8, if_neg h9]
theorem sp_chr_no {x : Int} (hx : 0 ≤ x ∧ x < 64) (h : x ≠ 1 ∧ x ≠ 3 ∧ x ≠ 9 ∧ x ≠ 25 ∧ x ≠ 17 ∧ x ≠ 11 ∧ x ≠ 27 ∧ x ≠ 19 ∧ x ≠ 10 ∧ x ≠ 26 ∧ x ≠ 5 ∧ x ≠ 7 ∧ x ≠ 13 ∧ x ≠ 29 ∧ x ≠ 21 ∧ x ≠ 15 ∧ x ≠ 31 ∧ x ≠ 23 ∧ x ≠ 14 ∧ x ≠ 30 ∧ x ≠ 37 ∧ x ≠ 39 ∧ x ≠ 58 ∧ x ≠ 45 ∧ x ≠ 61 ∧ x ≠ 53 ∧ x ≠ 50 ∧ x ≠ 2 ∧ x ≠ 6 ∧ x ≠ 18 ∧ x ≠ 38 ∧ x ≠ 22 ∧ x ≠ 36 ∧ x ≠ 4) : sp_chr x = 35 := by
  have key : ∀ n : Nat, n < 64 → (n ∈ ([1, 3, 9, 25, 17, 11, 27, 19, 10, 26, 5, 7, 13, 29, 21, 15, 31, 23, 14, 30, 37, 39, 58, 45, 61, 53, 50, 2, 6, 18, 38, 22, 36, 4] : List Nat)) ∨ sp_chr (n : Int) = 35 := by decide +kernel
  rcases key x.toNat (by omega) with hm | hm
  · exfalso
    simp only [List.mem_cons, List.not_mem_nil, or_false] at hm
    omega
  · rw [show ((x.toNat : Nat) : Int) = x by omega] at hm
    exact hm
set_option maxRecDepth 100000 in
set_option maxHeartbeats 4000000 in
theorem c_Code_isLetter (l : Launch) (D : va_G) (Dt : Nat → ClassId) (b sz : Nat) (I : dz_Hp) (c : Int) (hc : 0 ≤ c ∧ c < 65536) : ly_M l D Dt b sz y_Code_isLetter b_Code_isLetter 1 (some .boolean) 2 [.int (dz_i c)] I (fun v I' => v = some (.int (dz_i (if (97 ≤ c ∧ c ≤ 122) ∨ (65 ≤ c ∧ c ≤ 90) then 1 else 0))) ∧ I' = I) := by
  refine ly_enter R_Code (by decide) rfl (Nat.le_of_ble_eq_true rfl) (ly_cat _ 0 rfl) (fun κ x => ?_)
  have hN := ly_N x
  show ly_V κ b sz I 0 [(0, .int (dz_i c))] []
  refine dz_iload_n x.1 0 d_Code_isLetter_0 rfl rfl ?_
  refine ly_callS (rest := []) x cl_Code_9 (c_Code_isSmall l D Dt b sz I c (by omega)) (by decide) rfl rfl (Nat.le_of_ble_eq_true rfl) d_Code_isLetter_1 (fun v I' hp1 => ?_)
  obtain ⟨rfl, hp1I⟩ := hp1
  have hp1I := hp1I.symm
  subst hp1I
  show ly_V κ b sz I 4 [(0, .int (dz_i c))] [.int (dz_i (if 97 ≤ c ∧ c ≤ 122 then 1 else 0))]
  refine dz_if_ne (tgt := 14) x.1 d_Code_isLetter_4 (by decide) (dz_br _) (fun hc2 => ?_) (fun hc2 => ?_)
  · have hc2 : 97 ≤ c ∧ c ≤ 122 := dz_bt hc2
    refine dz_iconst x.1 d_Code_isLetter_14 ?_
    refine dz_goto (tgt := 19) x.1 d_Code_isLetter_15 (by decide) ?_
    exact ly_iret x d_Code_isLetter_19 (dz_nbo (by omega)) ⟨by first | (exfalso; omega) | rw [if_pos (by omega)] | rw [if_neg (by omega)], rfl⟩
  · have hc2 : ¬ (97 ≤ c ∧ c ≤ 122) := dz_bf hc2
    refine dz_iload_n x.1 0 d_Code_isLetter_7 rfl rfl ?_
    refine ly_callS (rest := []) x cl_Code_15 (c_Code_isCapital l D Dt b sz I c (by omega)) (by decide) rfl rfl (Nat.le_of_ble_eq_true rfl) d_Code_isLetter_8 (fun v I' hp3 => ?_)
    obtain ⟨rfl, hp3I⟩ := hp3
    have hp3I := hp3I.symm
    subst hp3I
    show ly_V κ b sz I 11 [(0, .int (dz_i c))] [.int (dz_i (if 65 ≤ c ∧ c ≤ 90 then 1 else 0))]
    refine dz_if_eq (tgt := 18) x.1 d_Code_isLetter_11 (by decide) (dz_br _) (fun hc4 => ?_) (fun hc4 => ?_)
    · have hc4 : ¬ (65 ≤ c ∧ c ≤ 90) := dz_bf hc4
      refine dz_iconst x.1 d_Code_isLetter_18 ?_
      exact ly_iret x d_Code_isLetter_19 (dz_nbo (by omega)) ⟨by first | (exfalso; omega) | rw [if_pos (by omega)] | rw [if_neg (by omega)], rfl⟩
    · have hc4 : 65 ≤ c ∧ c ≤ 90 := dz_bt hc4
      refine dz_iconst x.1 d_Code_isLetter_14 ?_
      refine dz_goto (tgt := 19) x.1 d_Code_isLetter_15 (by decide) ?_
      exact ly_iret x d_Code_isLetter_19 (dz_nbo (by omega)) ⟨by first | (exfalso; omega) | rw [if_pos (by omega)] | rw [if_neg (by omega)], rfl⟩
set_option maxRecDepth 100000 in
set_option maxHeartbeats 4000000 in
theorem c_Code_toSmall (l : Launch) (D : va_G) (Dt : Nat → ClassId) (b sz : Nat) (I : dz_Hp) (c : Int) (hc : 0 ≤ c ∧ c < 65536) : ly_M l D Dt b sz y_Code_toSmall b_Code_toSmall 1 (some .char) 1 [.int (dz_i c)] I (fun v I' => v = some (.int (dz_i (sp_small c))) ∧ I' = I) := by
  refine ly_enter R_Code (by decide) rfl (Nat.le_of_ble_eq_true rfl) (ly_cat _ 0 rfl) (fun κ x => ?_)
  have hN := ly_N x
  show ly_V κ b sz I 0 [(0, .int (dz_i c))] []
  refine dz_iload_n x.1 0 d_Code_toSmall_0 rfl rfl ?_
  refine dz_bipush x.1 d_Code_toSmall_1 (by decide) ?_
  refine dz_icmp_lt (tgt := 23) x.1 d_Code_toSmall_3 (by decide) (by omega) (by omega) (fun hc1 => ?_) (fun hc1 => ?_)
  · refine dz_iload_n x.1 0 d_Code_toSmall_23 rfl rfl ?_
    exact ly_iret x d_Code_toSmall_24 (dz_nch (by omega)) ⟨by unfold sp_small; first | (exfalso; omega) | rw [if_pos (by omega)] | rw [if_neg (by omega)], rfl⟩
  · refine dz_iload_n x.1 0 d_Code_toSmall_6 rfl rfl ?_
    refine dz_bipush x.1 d_Code_toSmall_7 (by decide) ?_
    refine dz_icmp_gt (tgt := 23) x.1 d_Code_toSmall_9 (by decide) (by omega) (by omega) (fun hc2 => ?_) (fun hc2 => ?_)
    · refine dz_iload_n x.1 0 d_Code_toSmall_23 rfl rfl ?_
      exact ly_iret x d_Code_toSmall_24 (dz_nch (by omega)) ⟨by unfold sp_small; first | (exfalso; omega) | rw [if_pos (by omega)] | rw [if_neg (by omega)], rfl⟩
    · refine dz_iload_n x.1 0 d_Code_toSmall_12 rfl rfl ?_
      refine dz_bipush x.1 d_Code_toSmall_13 (by decide) ?_
      refine dz_isub (z := c - 65) x.1 d_Code_toSmall_15 (by omega) ?_
      refine dz_bipush x.1 d_Code_toSmall_16 (by decide) ?_
      refine dz_iadd (z := c + 32) x.1 d_Code_toSmall_18 (by omega) ?_
      refine dz_i2c x.1 d_Code_toSmall_19 (by omega) ?_
      refine dz_goto (tgt := 24) x.1 d_Code_toSmall_20 (by decide) ?_
      exact ly_iret x d_Code_toSmall_24 (dz_nch (by omega)) ⟨by unfold sp_small; first | (exfalso; omega) | rw [if_pos (by omega)] | rw [if_neg (by omega)], rfl⟩
set_option maxRecDepth 100000 in
set_option maxHeartbeats 4000000 in
theorem c_Code_toCapital (l : Launch) (D : va_G) (Dt : Nat → ClassId) (b sz : Nat) (I : dz_Hp) (c : Int) (hc : 0 ≤ c ∧ c < 65536) : ly_M l D Dt b sz y_Code_toCapital b_Code_toCapital 1 (some .char) 1 [.int (dz_i c)] I (fun v I' => v = some (.int (dz_i (sp_big c))) ∧ I' = I) := by
  refine ly_enter R_Code (by decide) rfl (Nat.le_of_ble_eq_true rfl) (ly_cat _ 0 rfl) (fun κ x => ?_)
  have hN := ly_N x
  show ly_V κ b sz I 0 [(0, .int (dz_i c))] []
  refine dz_iload_n x.1 0 d_Code_toCapital_0 rfl rfl ?_
  refine dz_bipush x.1 d_Code_toCapital_1 (by decide) ?_
  refine dz_icmp_lt (tgt := 23) x.1 d_Code_toCapital_3 (by decide) (by omega) (by omega) (fun hc1 => ?_) (fun hc1 => ?_)
  · refine dz_iload_n x.1 0 d_Code_toCapital_23 rfl rfl ?_
    exact ly_iret x d_Code_toCapital_24 (dz_nch (by omega)) ⟨by unfold sp_big; first | (exfalso; omega) | rw [if_pos (by omega)] | rw [if_neg (by omega)], rfl⟩
  · refine dz_iload_n x.1 0 d_Code_toCapital_6 rfl rfl ?_
    refine dz_bipush x.1 d_Code_toCapital_7 (by decide) ?_
    refine dz_icmp_gt (tgt := 23) x.1 d_Code_toCapital_9 (by decide) (by omega) (by omega) (fun hc2 => ?_) (fun hc2 => ?_)
    · refine dz_iload_n x.1 0 d_Code_toCapital_23 rfl rfl ?_
      exact ly_iret x d_Code_toCapital_24 (dz_nch (by omega)) ⟨by unfold sp_big; first | (exfalso; omega) | rw [if_pos (by omega)] | rw [if_neg (by omega)], rfl⟩
    · refine dz_iload_n x.1 0 d_Code_toCapital_12 rfl rfl ?_
      refine dz_bipush x.1 d_Code_toCapital_13 (by decide) ?_
      refine dz_isub (z := c - 97) x.1 d_Code_toCapital_15 (by omega) ?_
      refine dz_bipush x.1 d_Code_toCapital_16 (by decide) ?_
      refine dz_iadd (z := c - 32) x.1 d_Code_toCapital_18 (by omega) ?_
      refine dz_i2c x.1 d_Code_toCapital_19 (by omega) ?_
      refine dz_goto (tgt := 24) x.1 d_Code_toCapital_20 (by decide) ?_
      exact ly_iret x d_Code_toCapital_24 (dz_nch (by omega)) ⟨by unfold sp_big; first | (exfalso; omega) | rw [if_pos (by omega)] | rw [if_neg (by omega)], rfl⟩
theorem sp_small_l {c : Int} (h : (97 ≤ c ∧ c ≤ 122) ∨ (65 ≤ c ∧ c ≤ 90)) : 97 ≤ sp_small c ∧ sp_small c ≤ 122 := by unfold sp_small; split <;> omega
set_option maxRecDepth 100000 in
set_option maxHeartbeats 4000000 in
theorem c_Code_hasCell (l : Launch) (D : va_G) (Dt : Nat → ClassId) (b sz : Nat) (I : dz_Hp) (c : Int) (hc : 0 ≤ c ∧ c < 65536) : ly_M l D Dt b sz y_Code_hasCell b_Code_hasCell 1 (some .boolean) 5 [.int (dz_i c)] I (fun v I' => v = some (.int (dz_i (if c = 32 ∨ ((97 ≤ c ∧ c ≤ 122) ∨ (65 ≤ c ∧ c ≤ 90)) ∨ (48 ≤ c ∧ c ≤ 57) ∨ 0 ≤ sp_ix 1 c then 1 else 0))) ∧ I' = I) := by
  refine ly_enter R_Code (by decide) rfl (Nat.le_of_ble_eq_true rfl) (ly_cat _ 0 rfl) (fun κ x => ?_)
  have hN := ly_N x
  have hr := sp_ix_rng 1 c
  show ly_V κ b sz I 0 [(0, .int (dz_i c))] []
  refine dz_iload_n x.1 0 d_Code_hasCell_0 rfl rfl ?_
  refine dz_bipush x.1 d_Code_hasCell_1 (by decide) ?_
  refine dz_icmp_eq (tgt := 29) x.1 d_Code_hasCell_3 (by decide) (by omega) (by omega) (fun hc1 => ?_) (fun hc1 => ?_)
  · refine dz_iconst x.1 d_Code_hasCell_29 ?_
    refine dz_goto (tgt := 34) x.1 d_Code_hasCell_30 (by decide) ?_
    exact ly_iret x d_Code_hasCell_34 (dz_nbo (by omega)) ⟨by first | (exfalso; omega) | rw [if_pos (by omega)] | rw [if_neg (by omega)], rfl⟩
  · refine dz_iload_n x.1 0 d_Code_hasCell_6 rfl rfl ?_
    refine ly_callS (rest := []) x cl_Code_18 (c_Code_isLetter l D Dt b sz I c (by omega)) (by decide) rfl rfl (Nat.le_of_ble_eq_true rfl) d_Code_hasCell_7 (fun v I' hp2 => ?_)
    obtain ⟨rfl, hp2I⟩ := hp2
    have hp2I := hp2I.symm
    subst hp2I
    show ly_V κ b sz I 10 [(0, .int (dz_i c))] [.int (dz_i (if (97 ≤ c ∧ c ≤ 122) ∨ (65 ≤ c ∧ c ≤ 90) then 1 else 0))]
    refine dz_if_ne (tgt := 29) x.1 d_Code_hasCell_10 (by decide) (dz_br _) (fun hc3 => ?_) (fun hc3 => ?_)
    · have hc3 : (97 ≤ c ∧ c ≤ 122) ∨ (65 ≤ c ∧ c ≤ 90) := dz_bt hc3
      refine dz_iconst x.1 d_Code_hasCell_29 ?_
      refine dz_goto (tgt := 34) x.1 d_Code_hasCell_30 (by decide) ?_
      exact ly_iret x d_Code_hasCell_34 (dz_nbo (by omega)) ⟨by first | (exfalso; omega) | rw [if_pos (by omega)] | rw [if_neg (by omega)], rfl⟩
    · have hc3 : ¬ ((97 ≤ c ∧ c ≤ 122) ∨ (65 ≤ c ∧ c ≤ 90)) := dz_bf hc3
      refine dz_iload_n x.1 0 d_Code_hasCell_13 rfl rfl ?_
      refine ly_callS (rest := []) x cl_Code_21 (c_Code_isDigit l D Dt b sz I c (by omega)) (by decide) rfl rfl (Nat.le_of_ble_eq_true rfl) d_Code_hasCell_14 (fun v I' hp4 => ?_)
      obtain ⟨rfl, hp4I⟩ := hp4
      have hp4I := hp4I.symm
      subst hp4I
      show ly_V κ b sz I 17 [(0, .int (dz_i c))] [.int (dz_i (if 48 ≤ c ∧ c ≤ 57 then 1 else 0))]
      refine dz_if_ne (tgt := 29) x.1 d_Code_hasCell_17 (by decide) (dz_br _) (fun hc5 => ?_) (fun hc5 => ?_)
      · have hc5 : 48 ≤ c ∧ c ≤ 57 := dz_bt hc5
        refine dz_iconst x.1 d_Code_hasCell_29 ?_
        refine dz_goto (tgt := 34) x.1 d_Code_hasCell_30 (by decide) ?_
        exact ly_iret x d_Code_hasCell_34 (dz_nbo (by omega)) ⟨by first | (exfalso; omega) | rw [if_pos (by omega)] | rw [if_neg (by omega)], rfl⟩
      · have hc5 : ¬ (48 ≤ c ∧ c ≤ 57) := dz_bf hc5
        refine ly_ldc1 x d_Code_hasCell_20 ?_
        show ly_V κ b sz I 22 [(0, .int (dz_i c))] [.ref (Dt (100 + 1))]
        refine dz_iload_n x.1 0 d_Code_hasCell_22 rfl rfl ?_
        refine ly_callT (i := 1) (rest := []) x cl_Code_26 (by decide) (c_JStr_indexOf_1 l D Dt b sz I c hc) (by decide) rfl rfl rfl (Nat.le_of_ble_eq_true rfl) d_Code_hasCell_23 (fun v I' hp6 => ?_)
        obtain ⟨rfl, hp6I⟩ := hp6
        have hp6I := hp6I.symm
        subst hp6I
        show ly_V κ b sz I 26 [(0, .int (dz_i c))] [.int (dz_i (sp_ix 1 c))]
        refine dz_if_lt (tgt := 33) x.1 d_Code_hasCell_26 (by decide) (by omega) (fun hc7 => ?_) (fun hc7 => ?_)
        · refine dz_iconst x.1 d_Code_hasCell_33 ?_
          exact ly_iret x d_Code_hasCell_34 (dz_nbo (by omega)) ⟨by first | (exfalso; omega) | rw [if_pos (by omega)] | rw [if_neg (by omega)], rfl⟩
        · refine dz_iconst x.1 d_Code_hasCell_29 ?_
          refine dz_goto (tgt := 34) x.1 d_Code_hasCell_30 (by decide) ?_
          exact ly_iret x d_Code_hasCell_34 (dz_nbo (by omega)) ⟨by first | (exfalso; omega) | rw [if_pos (by omega)] | rw [if_neg (by omega)], rfl⟩
set_option maxRecDepth 100000 in
set_option maxHeartbeats 4000000 in
theorem c_Code_cellOf (l : Launch) (D : va_G) (Dt : Nat → ClassId) (b sz : Nat) (I : dz_Hp) (c : Int) (hc : 0 ≤ c ∧ c < 65536) : ly_M l D Dt b sz y_Code_cellOf b_Code_cellOf 2 (some .int) 5 [.int (dz_i c)] I (fun v I' => v = some (.int (dz_i (sp_cell c))) ∧ I' = I) := by
  refine ly_enter R_Code (by decide) rfl (Nat.le_of_ble_eq_true rfl) (ly_cat _ 0 rfl) (fun κ x => ?_)
  have hN := ly_N x
  have hr := sp_ix_rng 1 c
  show ly_V κ b sz I 0 [(0, .int (dz_i c))] []
  refine dz_iload_n x.1 0 d_Code_cellOf_0 rfl rfl ?_
  refine ly_callS (rest := []) x cl_Code_18 (c_Code_isLetter l D Dt b sz I c (by omega)) (by decide) rfl rfl (Nat.le_of_ble_eq_true rfl) d_Code_cellOf_1 (fun v I' hp1 => ?_)
  obtain ⟨rfl, hp1I⟩ := hp1
  have hp1I := hp1I.symm
  subst hp1I
  show ly_V κ b sz I 4 [(0, .int (dz_i c))] [.int (dz_i (if (97 ≤ c ∧ c ≤ 122) ∨ (65 ≤ c ∧ c ≤ 90) then 1 else 0))]
  refine dz_if_eq (tgt := 19) x.1 d_Code_cellOf_4 (by decide) (dz_br _) (fun hc2 => ?_) (fun hc2 => ?_)
  · have hc2 : ¬ ((97 ≤ c ∧ c ≤ 122) ∨ (65 ≤ c ∧ c ≤ 90)) := dz_bf hc2
    refine dz_iload_n x.1 0 d_Code_cellOf_19 rfl rfl ?_
    refine ly_callS (rest := []) x cl_Code_21 (c_Code_isDigit l D Dt b sz I c (by omega)) (by decide) rfl rfl (Nat.le_of_ble_eq_true rfl) d_Code_cellOf_20 (fun v I' hp3 => ?_)
    obtain ⟨rfl, hp3I⟩ := hp3
    have hp3I := hp3I.symm
    subst hp3I
    show ly_V κ b sz I 23 [(0, .int (dz_i c))] [.int (dz_i (if 48 ≤ c ∧ c ≤ 57 then 1 else 0))]
    refine dz_if_eq (tgt := 50) x.1 d_Code_cellOf_23 (by decide) (dz_br _) (fun hc4 => ?_) (fun hc4 => ?_)
    · have hc4 : ¬ (48 ≤ c ∧ c ≤ 57) := dz_bf hc4
      refine ly_ldc1 x d_Code_cellOf_50 ?_
      show ly_V κ b sz I 52 [(0, .int (dz_i c))] [.ref (Dt (100 + 1))]
      refine dz_iload_n x.1 0 d_Code_cellOf_52 rfl rfl ?_
      refine ly_callT (i := 1) (rest := []) x cl_Code_26 (by decide) (c_JStr_indexOf_1 l D Dt b sz I c hc) (by decide) rfl rfl rfl (Nat.le_of_ble_eq_true rfl) d_Code_cellOf_53 (fun v I' hp5 => ?_)
      obtain ⟨rfl, hp5I⟩ := hp5
      have hp5I := hp5I.symm
      subst hp5I
      show ly_V κ b sz I 56 [(0, .int (dz_i c))] [.int (dz_i (sp_ix 1 c))]
      refine dz_istore_n (ls' := [(0, .int (dz_i c)), (1, .int (dz_i (sp_ix 1 c)))]) x.1 d_Code_cellOf_56 rfl hN (by decide) rfl ?_
      refine dz_iload_n x.1 1 d_Code_cellOf_57 rfl rfl ?_
      refine dz_if_lt (tgt := 77) x.1 d_Code_cellOf_58 (by decide) (by omega) (fun hc6 => ?_) (fun hc6 => ?_)
      · refine dz_iconst x.1 d_Code_cellOf_77 ?_
        exact ly_iret x d_Code_cellOf_78 rfl ⟨by unfold sp_cell; (repeat' (first | rw [if_pos (by omega)] | rw [if_neg (by omega)])), rfl⟩
      · refine dz_iload_n x.1 1 d_Code_cellOf_61 rfl rfl ?_
        refine ly_getsM x sl_Code_40 d_Code_cellOf_62 ?_
        refine ly_tlnM x d_Code_cellOf_65 ?_
        refine dz_icmp_ge (tgt := 77) x.1 d_Code_cellOf_66 (by decide) (by omega) (by omega) (fun hc7 => by exfalso; omega) (fun hc7 => ?_)
        refine ly_getsM x sl_Code_40 d_Code_cellOf_69 ?_
        refine dz_iload_n x.1 1 d_Code_cellOf_72 rfl rfl ?_
        refine ly_tldM x (by omega) d_Code_cellOf_73 ?_
        refine dz_goto (tgt := 78) x.1 d_Code_cellOf_74 (by decide) ?_
        exact ly_iret x d_Code_cellOf_78 rfl ⟨by unfold sp_cell; (repeat' (first | rw [if_pos (by omega)] | rw [if_neg (by omega)])), rfl⟩
    · have hc4 : 48 ≤ c ∧ c ≤ 57 := dz_bt hc4
      refine dz_iload_n x.1 0 d_Code_cellOf_26 rfl rfl ?_
      refine dz_bipush x.1 d_Code_cellOf_27 (by decide) ?_
      refine dz_icmp_ne (tgt := 41) x.1 d_Code_cellOf_29 (by decide) (by omega) (by omega) (fun hc8 => ?_) (fun hc8 => ?_)
      · refine ly_getsL x sl_Code_32 d_Code_cellOf_41 ?_
        refine dz_iload_n x.1 0 d_Code_cellOf_44 rfl rfl ?_
        refine dz_bipush x.1 d_Code_cellOf_45 (by decide) ?_
        refine dz_isub (z := c - 49) x.1 d_Code_cellOf_47 (by omega) ?_
        refine ly_tldL x (by omega) d_Code_cellOf_48 ?_
        exact ly_iret x d_Code_cellOf_49 rfl ⟨by unfold sp_cell; (repeat' (first | rw [if_pos (by omega)] | rw [if_neg (by omega)])), rfl⟩
      · refine ly_getsL x sl_Code_32 d_Code_cellOf_32 ?_
        refine dz_bipush x.1 d_Code_cellOf_35 (by decide) ?_
        refine ly_tldcL (w := 26) x (by omega) (by decide) d_Code_cellOf_37 ?_
        refine dz_goto (tgt := 49) x.1 d_Code_cellOf_38 (by decide) ?_
        exact ly_iret x d_Code_cellOf_49 rfl ⟨by unfold sp_cell; (repeat' (first | rw [if_pos (by omega)] | rw [if_neg (by omega)])), rfl⟩
  · have hc2 : (97 ≤ c ∧ c ≤ 122) ∨ (65 ≤ c ∧ c ≤ 90) := dz_bt hc2
    refine ly_getsL x sl_Code_32 d_Code_cellOf_7 ?_
    refine dz_iload_n x.1 0 d_Code_cellOf_10 rfl rfl ?_
    refine ly_callS (rest := [.ref (Dt 300)]) x cl_Code_36 (c_Code_toSmall l D Dt b sz I c hc) (by decide) rfl rfl (Nat.le_of_ble_eq_true rfl) d_Code_cellOf_11 (fun v I' hp9 => ?_)
    obtain ⟨rfl, hp9I⟩ := hp9
    have hp9I := hp9I.symm
    subst hp9I
    have hs := sp_small_l (c := c) (by omega)
    show ly_V κ b sz I 14 [(0, .int (dz_i c))] [.int (dz_i (sp_small c)), .ref (Dt 300)]
    refine dz_bipush x.1 d_Code_cellOf_14 (by decide) ?_
    refine dz_isub (z := (sp_small c) - 97) x.1 d_Code_cellOf_16 (by omega) ?_
    refine ly_tldL x (by omega) d_Code_cellOf_17 ?_
    exact ly_iret x d_Code_cellOf_18 rfl ⟨by unfold sp_cell; (repeat' (first | rw [if_pos (by omega)] | rw [if_neg (by omega)])), rfl⟩
set_option maxRecDepth 100000 in
set_option maxHeartbeats 4000000 in
theorem c_Code_digitOf (l : Launch) (D : va_G) (Dt : Nat → ClassId) (b sz : Nat) (I : dz_Hp) (q : Int) (hx : 0 ≤ q ∧ q < 64) : ly_M l D Dt b sz y_Code_digitOf b_Code_digitOf 2 (some .char) 1 [.int (dz_i q)] I (fun v I' => v = some (.int (dz_i (sp_dig q))) ∧ I' = I) := by
  refine ly_enter R_Code (by decide) rfl (Nat.le_of_ble_eq_true rfl) (ly_cat _ 0 rfl) (fun κ x => ?_)
  have hN := ly_N x
  show ly_V κ b sz I 0 [(0, .int (dz_i q))] []
  refine dz_iconst x.1 d_Code_digitOf_0 ?_
  refine dz_istore_n (ls' := [(0, .int (dz_i q)), (1, .int (dz_i 0))]) x.1 d_Code_digitOf_1 rfl hN (by decide) rfl ?_
  refine dz_iload_n x.1 1 d_Code_digitOf_2 rfl rfl ?_
  refine dz_bipush x.1 d_Code_digitOf_3 (by decide) ?_
  refine dz_icmp_ge (tgt := 34) x.1 d_Code_digitOf_5 (by decide) (by omega) (by omega) (fun hc1 => by exfalso; omega) (fun hc1 => ?_)
  refine ly_getsL x sl_Code_32 d_Code_digitOf_8 ?_
  refine dz_iload_n x.1 1 d_Code_digitOf_11 rfl rfl ?_
  refine ly_tldcL (w := 1) x (by omega) (by decide) d_Code_digitOf_12 ?_
  refine dz_iload_n x.1 0 d_Code_digitOf_13 rfl rfl ?_
  refine dz_icmp_ne (tgt := 28) x.1 d_Code_digitOf_14 (by decide) (by omega) (by omega) (fun hc2 => ?_) (fun hc2 => ?_)
  · refine dz_iinc (z := 1) (ls' := [(0, .int (dz_i q)), (1, .int (dz_i 1))]) x.1 1 d_Code_digitOf_28 rfl hN (by decide) (by omega) rfl ?_
    refine dz_goto (tgt := 2) x.1 d_Code_digitOf_31 (by decide) ?_
    refine dz_iload_n x.1 1 d_Code_digitOf_2 rfl rfl ?_
    refine dz_bipush x.1 d_Code_digitOf_3 (by decide) ?_
    refine dz_icmp_ge (tgt := 34) x.1 d_Code_digitOf_5 (by decide) (by omega) (by omega) (fun hc3 => by exfalso; omega) (fun hc3 => ?_)
    refine ly_getsL x sl_Code_32 d_Code_digitOf_8 ?_
    refine dz_iload_n x.1 1 d_Code_digitOf_11 rfl rfl ?_
    refine ly_tldcL (w := 3) x (by omega) (by decide) d_Code_digitOf_12 ?_
    refine dz_iload_n x.1 0 d_Code_digitOf_13 rfl rfl ?_
    refine dz_icmp_ne (tgt := 28) x.1 d_Code_digitOf_14 (by decide) (by omega) (by omega) (fun hc4 => ?_) (fun hc4 => ?_)
    · refine dz_iinc (z := 2) (ls' := [(0, .int (dz_i q)), (1, .int (dz_i 2))]) x.1 1 d_Code_digitOf_28 rfl hN (by decide) (by omega) rfl ?_
      refine dz_goto (tgt := 2) x.1 d_Code_digitOf_31 (by decide) ?_
      refine dz_iload_n x.1 1 d_Code_digitOf_2 rfl rfl ?_
      refine dz_bipush x.1 d_Code_digitOf_3 (by decide) ?_
      refine dz_icmp_ge (tgt := 34) x.1 d_Code_digitOf_5 (by decide) (by omega) (by omega) (fun hc5 => by exfalso; omega) (fun hc5 => ?_)
      refine ly_getsL x sl_Code_32 d_Code_digitOf_8 ?_
      refine dz_iload_n x.1 1 d_Code_digitOf_11 rfl rfl ?_
      refine ly_tldcL (w := 9) x (by omega) (by decide) d_Code_digitOf_12 ?_
      refine dz_iload_n x.1 0 d_Code_digitOf_13 rfl rfl ?_
      refine dz_icmp_ne (tgt := 28) x.1 d_Code_digitOf_14 (by decide) (by omega) (by omega) (fun hc6 => ?_) (fun hc6 => ?_)
      · refine dz_iinc (z := 3) (ls' := [(0, .int (dz_i q)), (1, .int (dz_i 3))]) x.1 1 d_Code_digitOf_28 rfl hN (by decide) (by omega) rfl ?_
        refine dz_goto (tgt := 2) x.1 d_Code_digitOf_31 (by decide) ?_
        refine dz_iload_n x.1 1 d_Code_digitOf_2 rfl rfl ?_
        refine dz_bipush x.1 d_Code_digitOf_3 (by decide) ?_
        refine dz_icmp_ge (tgt := 34) x.1 d_Code_digitOf_5 (by decide) (by omega) (by omega) (fun hc7 => by exfalso; omega) (fun hc7 => ?_)
        refine ly_getsL x sl_Code_32 d_Code_digitOf_8 ?_
        refine dz_iload_n x.1 1 d_Code_digitOf_11 rfl rfl ?_
        refine ly_tldcL (w := 25) x (by omega) (by decide) d_Code_digitOf_12 ?_
        refine dz_iload_n x.1 0 d_Code_digitOf_13 rfl rfl ?_
        refine dz_icmp_ne (tgt := 28) x.1 d_Code_digitOf_14 (by decide) (by omega) (by omega) (fun hc8 => ?_) (fun hc8 => ?_)
        · refine dz_iinc (z := 4) (ls' := [(0, .int (dz_i q)), (1, .int (dz_i 4))]) x.1 1 d_Code_digitOf_28 rfl hN (by decide) (by omega) rfl ?_
          refine dz_goto (tgt := 2) x.1 d_Code_digitOf_31 (by decide) ?_
          refine dz_iload_n x.1 1 d_Code_digitOf_2 rfl rfl ?_
          refine dz_bipush x.1 d_Code_digitOf_3 (by decide) ?_
          refine dz_icmp_ge (tgt := 34) x.1 d_Code_digitOf_5 (by decide) (by omega) (by omega) (fun hc9 => by exfalso; omega) (fun hc9 => ?_)
          refine ly_getsL x sl_Code_32 d_Code_digitOf_8 ?_
          refine dz_iload_n x.1 1 d_Code_digitOf_11 rfl rfl ?_
          refine ly_tldcL (w := 17) x (by omega) (by decide) d_Code_digitOf_12 ?_
          refine dz_iload_n x.1 0 d_Code_digitOf_13 rfl rfl ?_
          refine dz_icmp_ne (tgt := 28) x.1 d_Code_digitOf_14 (by decide) (by omega) (by omega) (fun hc10 => ?_) (fun hc10 => ?_)
          · refine dz_iinc (z := 5) (ls' := [(0, .int (dz_i q)), (1, .int (dz_i 5))]) x.1 1 d_Code_digitOf_28 rfl hN (by decide) (by omega) rfl ?_
            refine dz_goto (tgt := 2) x.1 d_Code_digitOf_31 (by decide) ?_
            refine dz_iload_n x.1 1 d_Code_digitOf_2 rfl rfl ?_
            refine dz_bipush x.1 d_Code_digitOf_3 (by decide) ?_
            refine dz_icmp_ge (tgt := 34) x.1 d_Code_digitOf_5 (by decide) (by omega) (by omega) (fun hc11 => by exfalso; omega) (fun hc11 => ?_)
            refine ly_getsL x sl_Code_32 d_Code_digitOf_8 ?_
            refine dz_iload_n x.1 1 d_Code_digitOf_11 rfl rfl ?_
            refine ly_tldcL (w := 11) x (by omega) (by decide) d_Code_digitOf_12 ?_
            refine dz_iload_n x.1 0 d_Code_digitOf_13 rfl rfl ?_
            refine dz_icmp_ne (tgt := 28) x.1 d_Code_digitOf_14 (by decide) (by omega) (by omega) (fun hc12 => ?_) (fun hc12 => ?_)
            · refine dz_iinc (z := 6) (ls' := [(0, .int (dz_i q)), (1, .int (dz_i 6))]) x.1 1 d_Code_digitOf_28 rfl hN (by decide) (by omega) rfl ?_
              refine dz_goto (tgt := 2) x.1 d_Code_digitOf_31 (by decide) ?_
              refine dz_iload_n x.1 1 d_Code_digitOf_2 rfl rfl ?_
              refine dz_bipush x.1 d_Code_digitOf_3 (by decide) ?_
              refine dz_icmp_ge (tgt := 34) x.1 d_Code_digitOf_5 (by decide) (by omega) (by omega) (fun hc13 => by exfalso; omega) (fun hc13 => ?_)
              refine ly_getsL x sl_Code_32 d_Code_digitOf_8 ?_
              refine dz_iload_n x.1 1 d_Code_digitOf_11 rfl rfl ?_
              refine ly_tldcL (w := 27) x (by omega) (by decide) d_Code_digitOf_12 ?_
              refine dz_iload_n x.1 0 d_Code_digitOf_13 rfl rfl ?_
              refine dz_icmp_ne (tgt := 28) x.1 d_Code_digitOf_14 (by decide) (by omega) (by omega) (fun hc14 => ?_) (fun hc14 => ?_)
              · refine dz_iinc (z := 7) (ls' := [(0, .int (dz_i q)), (1, .int (dz_i 7))]) x.1 1 d_Code_digitOf_28 rfl hN (by decide) (by omega) rfl ?_
                refine dz_goto (tgt := 2) x.1 d_Code_digitOf_31 (by decide) ?_
                refine dz_iload_n x.1 1 d_Code_digitOf_2 rfl rfl ?_
                refine dz_bipush x.1 d_Code_digitOf_3 (by decide) ?_
                refine dz_icmp_ge (tgt := 34) x.1 d_Code_digitOf_5 (by decide) (by omega) (by omega) (fun hc15 => by exfalso; omega) (fun hc15 => ?_)
                refine ly_getsL x sl_Code_32 d_Code_digitOf_8 ?_
                refine dz_iload_n x.1 1 d_Code_digitOf_11 rfl rfl ?_
                refine ly_tldcL (w := 19) x (by omega) (by decide) d_Code_digitOf_12 ?_
                refine dz_iload_n x.1 0 d_Code_digitOf_13 rfl rfl ?_
                refine dz_icmp_ne (tgt := 28) x.1 d_Code_digitOf_14 (by decide) (by omega) (by omega) (fun hc16 => ?_) (fun hc16 => ?_)
                · refine dz_iinc (z := 8) (ls' := [(0, .int (dz_i q)), (1, .int (dz_i 8))]) x.1 1 d_Code_digitOf_28 rfl hN (by decide) (by omega) rfl ?_
                  refine dz_goto (tgt := 2) x.1 d_Code_digitOf_31 (by decide) ?_
                  refine dz_iload_n x.1 1 d_Code_digitOf_2 rfl rfl ?_
                  refine dz_bipush x.1 d_Code_digitOf_3 (by decide) ?_
                  refine dz_icmp_ge (tgt := 34) x.1 d_Code_digitOf_5 (by decide) (by omega) (by omega) (fun hc17 => by exfalso; omega) (fun hc17 => ?_)
                  refine ly_getsL x sl_Code_32 d_Code_digitOf_8 ?_
                  refine dz_iload_n x.1 1 d_Code_digitOf_11 rfl rfl ?_
                  refine ly_tldcL (w := 10) x (by omega) (by decide) d_Code_digitOf_12 ?_
                  refine dz_iload_n x.1 0 d_Code_digitOf_13 rfl rfl ?_
                  refine dz_icmp_ne (tgt := 28) x.1 d_Code_digitOf_14 (by decide) (by omega) (by omega) (fun hc18 => ?_) (fun hc18 => ?_)
                  · refine dz_iinc (z := 9) (ls' := [(0, .int (dz_i q)), (1, .int (dz_i 9))]) x.1 1 d_Code_digitOf_28 rfl hN (by decide) (by omega) rfl ?_
                    refine dz_goto (tgt := 2) x.1 d_Code_digitOf_31 (by decide) ?_
                    refine dz_iload_n x.1 1 d_Code_digitOf_2 rfl rfl ?_
                    refine dz_bipush x.1 d_Code_digitOf_3 (by decide) ?_
                    refine dz_icmp_ge (tgt := 34) x.1 d_Code_digitOf_5 (by decide) (by omega) (by omega) (fun hc19 => by exfalso; omega) (fun hc19 => ?_)
                    refine ly_getsL x sl_Code_32 d_Code_digitOf_8 ?_
                    refine dz_iload_n x.1 1 d_Code_digitOf_11 rfl rfl ?_
                    refine ly_tldcL (w := 26) x (by omega) (by decide) d_Code_digitOf_12 ?_
                    refine dz_iload_n x.1 0 d_Code_digitOf_13 rfl rfl ?_
                    refine dz_icmp_ne (tgt := 28) x.1 d_Code_digitOf_14 (by decide) (by omega) (by omega) (fun hc20 => ?_) (fun hc20 => ?_)
                    · refine dz_iinc (z := 10) (ls' := [(0, .int (dz_i q)), (1, .int (dz_i 10))]) x.1 1 d_Code_digitOf_28 rfl hN (by decide) (by omega) rfl ?_
                      refine dz_goto (tgt := 2) x.1 d_Code_digitOf_31 (by decide) ?_
                      refine dz_iload_n x.1 1 d_Code_digitOf_2 rfl rfl ?_
                      refine dz_bipush x.1 d_Code_digitOf_3 (by decide) ?_
                      refine dz_icmp_ge (tgt := 34) x.1 d_Code_digitOf_5 (by decide) (by omega) (by omega) (fun hc21 => ?_) (fun hc21 => by exfalso; omega)
                      refine dz_bipush x.1 d_Code_digitOf_34 (by decide) ?_
                      exact ly_iret x d_Code_digitOf_36 (dz_nch (by omega)) ⟨by rw [sp_dig_no (by omega)], rfl⟩
                    · refine dz_bipush x.1 d_Code_digitOf_17 (by decide) ?_
                      refine dz_iload_n x.1 1 d_Code_digitOf_19 rfl rfl ?_
                      refine dz_iconst x.1 d_Code_digitOf_20 ?_
                      refine dz_iadd (z := 10) x.1 d_Code_digitOf_21 (by omega) ?_
                      refine dz_bipush x.1 d_Code_digitOf_22 (by decide) ?_
                      refine dz_irem x.1 d_Code_digitOf_24 (by omega) (by omega) ?_
                      refine dz_iadd (z := (10 % 10) + 48) x.1 d_Code_digitOf_25 (by omega) ?_
                      refine dz_i2c x.1 d_Code_digitOf_26 (by omega) ?_
                      exact ly_iret x d_Code_digitOf_27 (dz_nch (by omega)) ⟨sp_dig_f (k := 26) (by omega) (by decide), rfl⟩
                  · refine dz_bipush x.1 d_Code_digitOf_17 (by decide) ?_
                    refine dz_iload_n x.1 1 d_Code_digitOf_19 rfl rfl ?_
                    refine dz_iconst x.1 d_Code_digitOf_20 ?_
                    refine dz_iadd (z := 9) x.1 d_Code_digitOf_21 (by omega) ?_
                    refine dz_bipush x.1 d_Code_digitOf_22 (by decide) ?_
                    refine dz_irem x.1 d_Code_digitOf_24 (by omega) (by omega) ?_
                    refine dz_iadd (z := (9 % 10) + 48) x.1 d_Code_digitOf_25 (by omega) ?_
                    refine dz_i2c x.1 d_Code_digitOf_26 (by omega) ?_
                    exact ly_iret x d_Code_digitOf_27 (dz_nch (by omega)) ⟨sp_dig_f (k := 10) (by omega) (by decide), rfl⟩
                · refine dz_bipush x.1 d_Code_digitOf_17 (by decide) ?_
                  refine dz_iload_n x.1 1 d_Code_digitOf_19 rfl rfl ?_
                  refine dz_iconst x.1 d_Code_digitOf_20 ?_
                  refine dz_iadd (z := 8) x.1 d_Code_digitOf_21 (by omega) ?_
                  refine dz_bipush x.1 d_Code_digitOf_22 (by decide) ?_
                  refine dz_irem x.1 d_Code_digitOf_24 (by omega) (by omega) ?_
                  refine dz_iadd (z := (8 % 10) + 48) x.1 d_Code_digitOf_25 (by omega) ?_
                  refine dz_i2c x.1 d_Code_digitOf_26 (by omega) ?_
                  exact ly_iret x d_Code_digitOf_27 (dz_nch (by omega)) ⟨sp_dig_f (k := 19) (by omega) (by decide), rfl⟩
              · refine dz_bipush x.1 d_Code_digitOf_17 (by decide) ?_
                refine dz_iload_n x.1 1 d_Code_digitOf_19 rfl rfl ?_
                refine dz_iconst x.1 d_Code_digitOf_20 ?_
                refine dz_iadd (z := 7) x.1 d_Code_digitOf_21 (by omega) ?_
                refine dz_bipush x.1 d_Code_digitOf_22 (by decide) ?_
                refine dz_irem x.1 d_Code_digitOf_24 (by omega) (by omega) ?_
                refine dz_iadd (z := (7 % 10) + 48) x.1 d_Code_digitOf_25 (by omega) ?_
                refine dz_i2c x.1 d_Code_digitOf_26 (by omega) ?_
                exact ly_iret x d_Code_digitOf_27 (dz_nch (by omega)) ⟨sp_dig_f (k := 27) (by omega) (by decide), rfl⟩
            · refine dz_bipush x.1 d_Code_digitOf_17 (by decide) ?_
              refine dz_iload_n x.1 1 d_Code_digitOf_19 rfl rfl ?_
              refine dz_iconst x.1 d_Code_digitOf_20 ?_
              refine dz_iadd (z := 6) x.1 d_Code_digitOf_21 (by omega) ?_
              refine dz_bipush x.1 d_Code_digitOf_22 (by decide) ?_
              refine dz_irem x.1 d_Code_digitOf_24 (by omega) (by omega) ?_
              refine dz_iadd (z := (6 % 10) + 48) x.1 d_Code_digitOf_25 (by omega) ?_
              refine dz_i2c x.1 d_Code_digitOf_26 (by omega) ?_
              exact ly_iret x d_Code_digitOf_27 (dz_nch (by omega)) ⟨sp_dig_f (k := 11) (by omega) (by decide), rfl⟩
          · refine dz_bipush x.1 d_Code_digitOf_17 (by decide) ?_
            refine dz_iload_n x.1 1 d_Code_digitOf_19 rfl rfl ?_
            refine dz_iconst x.1 d_Code_digitOf_20 ?_
            refine dz_iadd (z := 5) x.1 d_Code_digitOf_21 (by omega) ?_
            refine dz_bipush x.1 d_Code_digitOf_22 (by decide) ?_
            refine dz_irem x.1 d_Code_digitOf_24 (by omega) (by omega) ?_
            refine dz_iadd (z := (5 % 10) + 48) x.1 d_Code_digitOf_25 (by omega) ?_
            refine dz_i2c x.1 d_Code_digitOf_26 (by omega) ?_
            exact ly_iret x d_Code_digitOf_27 (dz_nch (by omega)) ⟨sp_dig_f (k := 17) (by omega) (by decide), rfl⟩
        · refine dz_bipush x.1 d_Code_digitOf_17 (by decide) ?_
          refine dz_iload_n x.1 1 d_Code_digitOf_19 rfl rfl ?_
          refine dz_iconst x.1 d_Code_digitOf_20 ?_
          refine dz_iadd (z := 4) x.1 d_Code_digitOf_21 (by omega) ?_
          refine dz_bipush x.1 d_Code_digitOf_22 (by decide) ?_
          refine dz_irem x.1 d_Code_digitOf_24 (by omega) (by omega) ?_
          refine dz_iadd (z := (4 % 10) + 48) x.1 d_Code_digitOf_25 (by omega) ?_
          refine dz_i2c x.1 d_Code_digitOf_26 (by omega) ?_
          exact ly_iret x d_Code_digitOf_27 (dz_nch (by omega)) ⟨sp_dig_f (k := 25) (by omega) (by decide), rfl⟩
      · refine dz_bipush x.1 d_Code_digitOf_17 (by decide) ?_
        refine dz_iload_n x.1 1 d_Code_digitOf_19 rfl rfl ?_
        refine dz_iconst x.1 d_Code_digitOf_20 ?_
        refine dz_iadd (z := 3) x.1 d_Code_digitOf_21 (by omega) ?_
        refine dz_bipush x.1 d_Code_digitOf_22 (by decide) ?_
        refine dz_irem x.1 d_Code_digitOf_24 (by omega) (by omega) ?_
        refine dz_iadd (z := (3 % 10) + 48) x.1 d_Code_digitOf_25 (by omega) ?_
        refine dz_i2c x.1 d_Code_digitOf_26 (by omega) ?_
        exact ly_iret x d_Code_digitOf_27 (dz_nch (by omega)) ⟨sp_dig_f (k := 9) (by omega) (by decide), rfl⟩
    · refine dz_bipush x.1 d_Code_digitOf_17 (by decide) ?_
      refine dz_iload_n x.1 1 d_Code_digitOf_19 rfl rfl ?_
      refine dz_iconst x.1 d_Code_digitOf_20 ?_
      refine dz_iadd (z := 2) x.1 d_Code_digitOf_21 (by omega) ?_
      refine dz_bipush x.1 d_Code_digitOf_22 (by decide) ?_
      refine dz_irem x.1 d_Code_digitOf_24 (by omega) (by omega) ?_
      refine dz_iadd (z := (2 % 10) + 48) x.1 d_Code_digitOf_25 (by omega) ?_
      refine dz_i2c x.1 d_Code_digitOf_26 (by omega) ?_
      exact ly_iret x d_Code_digitOf_27 (dz_nch (by omega)) ⟨sp_dig_f (k := 3) (by omega) (by decide), rfl⟩
  · refine dz_bipush x.1 d_Code_digitOf_17 (by decide) ?_
    refine dz_iload_n x.1 1 d_Code_digitOf_19 rfl rfl ?_
    refine dz_iconst x.1 d_Code_digitOf_20 ?_
    refine dz_iadd (z := 1) x.1 d_Code_digitOf_21 (by omega) ?_
    refine dz_bipush x.1 d_Code_digitOf_22 (by decide) ?_
    refine dz_irem x.1 d_Code_digitOf_24 (by omega) (by omega) ?_
    refine dz_iadd (z := (1 % 10) + 48) x.1 d_Code_digitOf_25 (by omega) ?_
    refine dz_i2c x.1 d_Code_digitOf_26 (by omega) ?_
    exact ly_iret x d_Code_digitOf_27 (dz_nch (by omega)) ⟨sp_dig_f (k := 1) (by omega) (by decide), rfl⟩
set_option maxRecDepth 100000 in
set_option maxHeartbeats 4000000 in
theorem c_Code_characterOf (l : Launch) (D : va_G) (Dt : Nat → ClassId) (b sz : Nat) (I : dz_Hp) (q : Int) (hx : 0 ≤ q ∧ q < 64) : ly_M l D Dt b sz y_Code_characterOf b_Code_characterOf 2 (some .char) 5 [.int (dz_i q)] I (fun v I' => v = some (.int (dz_i (sp_chr q))) ∧ I' = I) := by
  refine ly_enter R_Code (by decide) rfl (Nat.le_of_ble_eq_true rfl) (ly_cat _ 0 rfl) (fun κ x => ?_)
  have hN := ly_N x
  show ly_V κ b sz I 0 [(0, .int (dz_i q))] []
  refine dz_iconst x.1 d_Code_characterOf_0 ?_
  refine dz_istore_n (ls' := [(0, .int (dz_i q)), (1, .int (dz_i 0))]) x.1 d_Code_characterOf_1 rfl hN (by decide) rfl ?_
  refine dz_iload_n x.1 1 d_Code_characterOf_2 rfl rfl ?_
  refine ly_getsL x sl_Code_32 d_Code_characterOf_3 ?_
  refine ly_tlnL x d_Code_characterOf_6 ?_
  refine dz_icmp_ge (tgt := 31) x.1 d_Code_characterOf_7 (by decide) (by omega) (by omega) (fun hc1 => by exfalso; omega) (fun hc1 => ?_)
  refine ly_getsL x sl_Code_32 d_Code_characterOf_10 ?_
  refine dz_iload_n x.1 1 d_Code_characterOf_13 rfl rfl ?_
  refine ly_tldcL (w := 1) x (by omega) (by decide) d_Code_characterOf_14 ?_
  refine dz_iload_n x.1 0 d_Code_characterOf_15 rfl rfl ?_
  refine dz_icmp_ne (tgt := 25) x.1 d_Code_characterOf_16 (by decide) (by omega) (by omega) (fun hc2 => ?_) (fun hc2 => ?_)
  · refine dz_iinc (z := 1) (ls' := [(0, .int (dz_i q)), (1, .int (dz_i 1))]) x.1 1 d_Code_characterOf_25 rfl hN (by decide) (by omega) rfl ?_
    refine dz_goto (tgt := 2) x.1 d_Code_characterOf_28 (by decide) ?_
    refine dz_iload_n x.1 1 d_Code_characterOf_2 rfl rfl ?_
    refine ly_getsL x sl_Code_32 d_Code_characterOf_3 ?_
    refine ly_tlnL x d_Code_characterOf_6 ?_
    refine dz_icmp_ge (tgt := 31) x.1 d_Code_characterOf_7 (by decide) (by omega) (by omega) (fun hc3 => by exfalso; omega) (fun hc3 => ?_)
    refine ly_getsL x sl_Code_32 d_Code_characterOf_10 ?_
    refine dz_iload_n x.1 1 d_Code_characterOf_13 rfl rfl ?_
    refine ly_tldcL (w := 3) x (by omega) (by decide) d_Code_characterOf_14 ?_
    refine dz_iload_n x.1 0 d_Code_characterOf_15 rfl rfl ?_
    refine dz_icmp_ne (tgt := 25) x.1 d_Code_characterOf_16 (by decide) (by omega) (by omega) (fun hc4 => ?_) (fun hc4 => ?_)
    · refine dz_iinc (z := 2) (ls' := [(0, .int (dz_i q)), (1, .int (dz_i 2))]) x.1 1 d_Code_characterOf_25 rfl hN (by decide) (by omega) rfl ?_
      refine dz_goto (tgt := 2) x.1 d_Code_characterOf_28 (by decide) ?_
      refine dz_iload_n x.1 1 d_Code_characterOf_2 rfl rfl ?_
      refine ly_getsL x sl_Code_32 d_Code_characterOf_3 ?_
      refine ly_tlnL x d_Code_characterOf_6 ?_
      refine dz_icmp_ge (tgt := 31) x.1 d_Code_characterOf_7 (by decide) (by omega) (by omega) (fun hc5 => by exfalso; omega) (fun hc5 => ?_)
      refine ly_getsL x sl_Code_32 d_Code_characterOf_10 ?_
      refine dz_iload_n x.1 1 d_Code_characterOf_13 rfl rfl ?_
      refine ly_tldcL (w := 9) x (by omega) (by decide) d_Code_characterOf_14 ?_
      refine dz_iload_n x.1 0 d_Code_characterOf_15 rfl rfl ?_
      refine dz_icmp_ne (tgt := 25) x.1 d_Code_characterOf_16 (by decide) (by omega) (by omega) (fun hc6 => ?_) (fun hc6 => ?_)
      · refine dz_iinc (z := 3) (ls' := [(0, .int (dz_i q)), (1, .int (dz_i 3))]) x.1 1 d_Code_characterOf_25 rfl hN (by decide) (by omega) rfl ?_
        refine dz_goto (tgt := 2) x.1 d_Code_characterOf_28 (by decide) ?_
        refine dz_iload_n x.1 1 d_Code_characterOf_2 rfl rfl ?_
        refine ly_getsL x sl_Code_32 d_Code_characterOf_3 ?_
        refine ly_tlnL x d_Code_characterOf_6 ?_
        refine dz_icmp_ge (tgt := 31) x.1 d_Code_characterOf_7 (by decide) (by omega) (by omega) (fun hc7 => by exfalso; omega) (fun hc7 => ?_)
        refine ly_getsL x sl_Code_32 d_Code_characterOf_10 ?_
        refine dz_iload_n x.1 1 d_Code_characterOf_13 rfl rfl ?_
        refine ly_tldcL (w := 25) x (by omega) (by decide) d_Code_characterOf_14 ?_
        refine dz_iload_n x.1 0 d_Code_characterOf_15 rfl rfl ?_
        refine dz_icmp_ne (tgt := 25) x.1 d_Code_characterOf_16 (by decide) (by omega) (by omega) (fun hc8 => ?_) (fun hc8 => ?_)
        · refine dz_iinc (z := 4) (ls' := [(0, .int (dz_i q)), (1, .int (dz_i 4))]) x.1 1 d_Code_characterOf_25 rfl hN (by decide) (by omega) rfl ?_
          refine dz_goto (tgt := 2) x.1 d_Code_characterOf_28 (by decide) ?_
          refine dz_iload_n x.1 1 d_Code_characterOf_2 rfl rfl ?_
          refine ly_getsL x sl_Code_32 d_Code_characterOf_3 ?_
          refine ly_tlnL x d_Code_characterOf_6 ?_
          refine dz_icmp_ge (tgt := 31) x.1 d_Code_characterOf_7 (by decide) (by omega) (by omega) (fun hc9 => by exfalso; omega) (fun hc9 => ?_)
          refine ly_getsL x sl_Code_32 d_Code_characterOf_10 ?_
          refine dz_iload_n x.1 1 d_Code_characterOf_13 rfl rfl ?_
          refine ly_tldcL (w := 17) x (by omega) (by decide) d_Code_characterOf_14 ?_
          refine dz_iload_n x.1 0 d_Code_characterOf_15 rfl rfl ?_
          refine dz_icmp_ne (tgt := 25) x.1 d_Code_characterOf_16 (by decide) (by omega) (by omega) (fun hc10 => ?_) (fun hc10 => ?_)
          · refine dz_iinc (z := 5) (ls' := [(0, .int (dz_i q)), (1, .int (dz_i 5))]) x.1 1 d_Code_characterOf_25 rfl hN (by decide) (by omega) rfl ?_
            refine dz_goto (tgt := 2) x.1 d_Code_characterOf_28 (by decide) ?_
            refine dz_iload_n x.1 1 d_Code_characterOf_2 rfl rfl ?_
            refine ly_getsL x sl_Code_32 d_Code_characterOf_3 ?_
            refine ly_tlnL x d_Code_characterOf_6 ?_
            refine dz_icmp_ge (tgt := 31) x.1 d_Code_characterOf_7 (by decide) (by omega) (by omega) (fun hc11 => by exfalso; omega) (fun hc11 => ?_)
            refine ly_getsL x sl_Code_32 d_Code_characterOf_10 ?_
            refine dz_iload_n x.1 1 d_Code_characterOf_13 rfl rfl ?_
            refine ly_tldcL (w := 11) x (by omega) (by decide) d_Code_characterOf_14 ?_
            refine dz_iload_n x.1 0 d_Code_characterOf_15 rfl rfl ?_
            refine dz_icmp_ne (tgt := 25) x.1 d_Code_characterOf_16 (by decide) (by omega) (by omega) (fun hc12 => ?_) (fun hc12 => ?_)
            · refine dz_iinc (z := 6) (ls' := [(0, .int (dz_i q)), (1, .int (dz_i 6))]) x.1 1 d_Code_characterOf_25 rfl hN (by decide) (by omega) rfl ?_
              refine dz_goto (tgt := 2) x.1 d_Code_characterOf_28 (by decide) ?_
              refine dz_iload_n x.1 1 d_Code_characterOf_2 rfl rfl ?_
              refine ly_getsL x sl_Code_32 d_Code_characterOf_3 ?_
              refine ly_tlnL x d_Code_characterOf_6 ?_
              refine dz_icmp_ge (tgt := 31) x.1 d_Code_characterOf_7 (by decide) (by omega) (by omega) (fun hc13 => by exfalso; omega) (fun hc13 => ?_)
              refine ly_getsL x sl_Code_32 d_Code_characterOf_10 ?_
              refine dz_iload_n x.1 1 d_Code_characterOf_13 rfl rfl ?_
              refine ly_tldcL (w := 27) x (by omega) (by decide) d_Code_characterOf_14 ?_
              refine dz_iload_n x.1 0 d_Code_characterOf_15 rfl rfl ?_
              refine dz_icmp_ne (tgt := 25) x.1 d_Code_characterOf_16 (by decide) (by omega) (by omega) (fun hc14 => ?_) (fun hc14 => ?_)
              · refine dz_iinc (z := 7) (ls' := [(0, .int (dz_i q)), (1, .int (dz_i 7))]) x.1 1 d_Code_characterOf_25 rfl hN (by decide) (by omega) rfl ?_
                refine dz_goto (tgt := 2) x.1 d_Code_characterOf_28 (by decide) ?_
                refine dz_iload_n x.1 1 d_Code_characterOf_2 rfl rfl ?_
                refine ly_getsL x sl_Code_32 d_Code_characterOf_3 ?_
                refine ly_tlnL x d_Code_characterOf_6 ?_
                refine dz_icmp_ge (tgt := 31) x.1 d_Code_characterOf_7 (by decide) (by omega) (by omega) (fun hc15 => by exfalso; omega) (fun hc15 => ?_)
                refine ly_getsL x sl_Code_32 d_Code_characterOf_10 ?_
                refine dz_iload_n x.1 1 d_Code_characterOf_13 rfl rfl ?_
                refine ly_tldcL (w := 19) x (by omega) (by decide) d_Code_characterOf_14 ?_
                refine dz_iload_n x.1 0 d_Code_characterOf_15 rfl rfl ?_
                refine dz_icmp_ne (tgt := 25) x.1 d_Code_characterOf_16 (by decide) (by omega) (by omega) (fun hc16 => ?_) (fun hc16 => ?_)
                · refine dz_iinc (z := 8) (ls' := [(0, .int (dz_i q)), (1, .int (dz_i 8))]) x.1 1 d_Code_characterOf_25 rfl hN (by decide) (by omega) rfl ?_
                  refine dz_goto (tgt := 2) x.1 d_Code_characterOf_28 (by decide) ?_
                  refine dz_iload_n x.1 1 d_Code_characterOf_2 rfl rfl ?_
                  refine ly_getsL x sl_Code_32 d_Code_characterOf_3 ?_
                  refine ly_tlnL x d_Code_characterOf_6 ?_
                  refine dz_icmp_ge (tgt := 31) x.1 d_Code_characterOf_7 (by decide) (by omega) (by omega) (fun hc17 => by exfalso; omega) (fun hc17 => ?_)
                  refine ly_getsL x sl_Code_32 d_Code_characterOf_10 ?_
                  refine dz_iload_n x.1 1 d_Code_characterOf_13 rfl rfl ?_
                  refine ly_tldcL (w := 10) x (by omega) (by decide) d_Code_characterOf_14 ?_
                  refine dz_iload_n x.1 0 d_Code_characterOf_15 rfl rfl ?_
                  refine dz_icmp_ne (tgt := 25) x.1 d_Code_characterOf_16 (by decide) (by omega) (by omega) (fun hc18 => ?_) (fun hc18 => ?_)
                  · refine dz_iinc (z := 9) (ls' := [(0, .int (dz_i q)), (1, .int (dz_i 9))]) x.1 1 d_Code_characterOf_25 rfl hN (by decide) (by omega) rfl ?_
                    refine dz_goto (tgt := 2) x.1 d_Code_characterOf_28 (by decide) ?_
                    refine dz_iload_n x.1 1 d_Code_characterOf_2 rfl rfl ?_
                    refine ly_getsL x sl_Code_32 d_Code_characterOf_3 ?_
                    refine ly_tlnL x d_Code_characterOf_6 ?_
                    refine dz_icmp_ge (tgt := 31) x.1 d_Code_characterOf_7 (by decide) (by omega) (by omega) (fun hc19 => by exfalso; omega) (fun hc19 => ?_)
                    refine ly_getsL x sl_Code_32 d_Code_characterOf_10 ?_
                    refine dz_iload_n x.1 1 d_Code_characterOf_13 rfl rfl ?_
                    refine ly_tldcL (w := 26) x (by omega) (by decide) d_Code_characterOf_14 ?_
                    refine dz_iload_n x.1 0 d_Code_characterOf_15 rfl rfl ?_
                    refine dz_icmp_ne (tgt := 25) x.1 d_Code_characterOf_16 (by decide) (by omega) (by omega) (fun hc20 => ?_) (fun hc20 => ?_)
                    · refine dz_iinc (z := 10) (ls' := [(0, .int (dz_i q)), (1, .int (dz_i 10))]) x.1 1 d_Code_characterOf_25 rfl hN (by decide) (by omega) rfl ?_
                      refine dz_goto (tgt := 2) x.1 d_Code_characterOf_28 (by decide) ?_
                      refine dz_iload_n x.1 1 d_Code_characterOf_2 rfl rfl ?_
                      refine ly_getsL x sl_Code_32 d_Code_characterOf_3 ?_
                      refine ly_tlnL x d_Code_characterOf_6 ?_
                      refine dz_icmp_ge (tgt := 31) x.1 d_Code_characterOf_7 (by decide) (by omega) (by omega) (fun hc21 => by exfalso; omega) (fun hc21 => ?_)
                      refine ly_getsL x sl_Code_32 d_Code_characterOf_10 ?_
                      refine dz_iload_n x.1 1 d_Code_characterOf_13 rfl rfl ?_
                      refine ly_tldcL (w := 5) x (by omega) (by decide) d_Code_characterOf_14 ?_
                      refine dz_iload_n x.1 0 d_Code_characterOf_15 rfl rfl ?_
                      refine dz_icmp_ne (tgt := 25) x.1 d_Code_characterOf_16 (by decide) (by omega) (by omega) (fun hc22 => ?_) (fun hc22 => ?_)
                      · refine dz_iinc (z := 11) (ls' := [(0, .int (dz_i q)), (1, .int (dz_i 11))]) x.1 1 d_Code_characterOf_25 rfl hN (by decide) (by omega) rfl ?_
                        refine dz_goto (tgt := 2) x.1 d_Code_characterOf_28 (by decide) ?_
                        refine dz_iload_n x.1 1 d_Code_characterOf_2 rfl rfl ?_
                        refine ly_getsL x sl_Code_32 d_Code_characterOf_3 ?_
                        refine ly_tlnL x d_Code_characterOf_6 ?_
                        refine dz_icmp_ge (tgt := 31) x.1 d_Code_characterOf_7 (by decide) (by omega) (by omega) (fun hc23 => by exfalso; omega) (fun hc23 => ?_)
                        refine ly_getsL x sl_Code_32 d_Code_characterOf_10 ?_
                        refine dz_iload_n x.1 1 d_Code_characterOf_13 rfl rfl ?_
                        refine ly_tldcL (w := 7) x (by omega) (by decide) d_Code_characterOf_14 ?_
                        refine dz_iload_n x.1 0 d_Code_characterOf_15 rfl rfl ?_
                        refine dz_icmp_ne (tgt := 25) x.1 d_Code_characterOf_16 (by decide) (by omega) (by omega) (fun hc24 => ?_) (fun hc24 => ?_)
                        · refine dz_iinc (z := 12) (ls' := [(0, .int (dz_i q)), (1, .int (dz_i 12))]) x.1 1 d_Code_characterOf_25 rfl hN (by decide) (by omega) rfl ?_
                          refine dz_goto (tgt := 2) x.1 d_Code_characterOf_28 (by decide) ?_
                          refine dz_iload_n x.1 1 d_Code_characterOf_2 rfl rfl ?_
                          refine ly_getsL x sl_Code_32 d_Code_characterOf_3 ?_
                          refine ly_tlnL x d_Code_characterOf_6 ?_
                          refine dz_icmp_ge (tgt := 31) x.1 d_Code_characterOf_7 (by decide) (by omega) (by omega) (fun hc25 => by exfalso; omega) (fun hc25 => ?_)
                          refine ly_getsL x sl_Code_32 d_Code_characterOf_10 ?_
                          refine dz_iload_n x.1 1 d_Code_characterOf_13 rfl rfl ?_
                          refine ly_tldcL (w := 13) x (by omega) (by decide) d_Code_characterOf_14 ?_
                          refine dz_iload_n x.1 0 d_Code_characterOf_15 rfl rfl ?_
                          refine dz_icmp_ne (tgt := 25) x.1 d_Code_characterOf_16 (by decide) (by omega) (by omega) (fun hc26 => ?_) (fun hc26 => ?_)
                          · refine dz_iinc (z := 13) (ls' := [(0, .int (dz_i q)), (1, .int (dz_i 13))]) x.1 1 d_Code_characterOf_25 rfl hN (by decide) (by omega) rfl ?_
                            refine dz_goto (tgt := 2) x.1 d_Code_characterOf_28 (by decide) ?_
                            refine dz_iload_n x.1 1 d_Code_characterOf_2 rfl rfl ?_
                            refine ly_getsL x sl_Code_32 d_Code_characterOf_3 ?_
                            refine ly_tlnL x d_Code_characterOf_6 ?_
                            refine dz_icmp_ge (tgt := 31) x.1 d_Code_characterOf_7 (by decide) (by omega) (by omega) (fun hc27 => by exfalso; omega) (fun hc27 => ?_)
                            refine ly_getsL x sl_Code_32 d_Code_characterOf_10 ?_
                            refine dz_iload_n x.1 1 d_Code_characterOf_13 rfl rfl ?_
                            refine ly_tldcL (w := 29) x (by omega) (by decide) d_Code_characterOf_14 ?_
                            refine dz_iload_n x.1 0 d_Code_characterOf_15 rfl rfl ?_
                            refine dz_icmp_ne (tgt := 25) x.1 d_Code_characterOf_16 (by decide) (by omega) (by omega) (fun hc28 => ?_) (fun hc28 => ?_)
                            · refine dz_iinc (z := 14) (ls' := [(0, .int (dz_i q)), (1, .int (dz_i 14))]) x.1 1 d_Code_characterOf_25 rfl hN (by decide) (by omega) rfl ?_
                              refine dz_goto (tgt := 2) x.1 d_Code_characterOf_28 (by decide) ?_
                              refine dz_iload_n x.1 1 d_Code_characterOf_2 rfl rfl ?_
                              refine ly_getsL x sl_Code_32 d_Code_characterOf_3 ?_
                              refine ly_tlnL x d_Code_characterOf_6 ?_
                              refine dz_icmp_ge (tgt := 31) x.1 d_Code_characterOf_7 (by decide) (by omega) (by omega) (fun hc29 => by exfalso; omega) (fun hc29 => ?_)
                              refine ly_getsL x sl_Code_32 d_Code_characterOf_10 ?_
                              refine dz_iload_n x.1 1 d_Code_characterOf_13 rfl rfl ?_
                              refine ly_tldcL (w := 21) x (by omega) (by decide) d_Code_characterOf_14 ?_
                              refine dz_iload_n x.1 0 d_Code_characterOf_15 rfl rfl ?_
                              refine dz_icmp_ne (tgt := 25) x.1 d_Code_characterOf_16 (by decide) (by omega) (by omega) (fun hc30 => ?_) (fun hc30 => ?_)
                              · refine dz_iinc (z := 15) (ls' := [(0, .int (dz_i q)), (1, .int (dz_i 15))]) x.1 1 d_Code_characterOf_25 rfl hN (by decide) (by omega) rfl ?_
                                refine dz_goto (tgt := 2) x.1 d_Code_characterOf_28 (by decide) ?_
                                refine dz_iload_n x.1 1 d_Code_characterOf_2 rfl rfl ?_
                                refine ly_getsL x sl_Code_32 d_Code_characterOf_3 ?_
                                refine ly_tlnL x d_Code_characterOf_6 ?_
                                refine dz_icmp_ge (tgt := 31) x.1 d_Code_characterOf_7 (by decide) (by omega) (by omega) (fun hc31 => by exfalso; omega) (fun hc31 => ?_)
                                refine ly_getsL x sl_Code_32 d_Code_characterOf_10 ?_
                                refine dz_iload_n x.1 1 d_Code_characterOf_13 rfl rfl ?_
                                refine ly_tldcL (w := 15) x (by omega) (by decide) d_Code_characterOf_14 ?_
                                refine dz_iload_n x.1 0 d_Code_characterOf_15 rfl rfl ?_
                                refine dz_icmp_ne (tgt := 25) x.1 d_Code_characterOf_16 (by decide) (by omega) (by omega) (fun hc32 => ?_) (fun hc32 => ?_)
                                · refine dz_iinc (z := 16) (ls' := [(0, .int (dz_i q)), (1, .int (dz_i 16))]) x.1 1 d_Code_characterOf_25 rfl hN (by decide) (by omega) rfl ?_
                                  refine dz_goto (tgt := 2) x.1 d_Code_characterOf_28 (by decide) ?_
                                  refine dz_iload_n x.1 1 d_Code_characterOf_2 rfl rfl ?_
                                  refine ly_getsL x sl_Code_32 d_Code_characterOf_3 ?_
                                  refine ly_tlnL x d_Code_characterOf_6 ?_
                                  refine dz_icmp_ge (tgt := 31) x.1 d_Code_characterOf_7 (by decide) (by omega) (by omega) (fun hc33 => by exfalso; omega) (fun hc33 => ?_)
                                  refine ly_getsL x sl_Code_32 d_Code_characterOf_10 ?_
                                  refine dz_iload_n x.1 1 d_Code_characterOf_13 rfl rfl ?_
                                  refine ly_tldcL (w := 31) x (by omega) (by decide) d_Code_characterOf_14 ?_
                                  refine dz_iload_n x.1 0 d_Code_characterOf_15 rfl rfl ?_
                                  refine dz_icmp_ne (tgt := 25) x.1 d_Code_characterOf_16 (by decide) (by omega) (by omega) (fun hc34 => ?_) (fun hc34 => ?_)
                                  · refine dz_iinc (z := 17) (ls' := [(0, .int (dz_i q)), (1, .int (dz_i 17))]) x.1 1 d_Code_characterOf_25 rfl hN (by decide) (by omega) rfl ?_
                                    refine dz_goto (tgt := 2) x.1 d_Code_characterOf_28 (by decide) ?_
                                    refine dz_iload_n x.1 1 d_Code_characterOf_2 rfl rfl ?_
                                    refine ly_getsL x sl_Code_32 d_Code_characterOf_3 ?_
                                    refine ly_tlnL x d_Code_characterOf_6 ?_
                                    refine dz_icmp_ge (tgt := 31) x.1 d_Code_characterOf_7 (by decide) (by omega) (by omega) (fun hc35 => by exfalso; omega) (fun hc35 => ?_)
                                    refine ly_getsL x sl_Code_32 d_Code_characterOf_10 ?_
                                    refine dz_iload_n x.1 1 d_Code_characterOf_13 rfl rfl ?_
                                    refine ly_tldcL (w := 23) x (by omega) (by decide) d_Code_characterOf_14 ?_
                                    refine dz_iload_n x.1 0 d_Code_characterOf_15 rfl rfl ?_
                                    refine dz_icmp_ne (tgt := 25) x.1 d_Code_characterOf_16 (by decide) (by omega) (by omega) (fun hc36 => ?_) (fun hc36 => ?_)
                                    · refine dz_iinc (z := 18) (ls' := [(0, .int (dz_i q)), (1, .int (dz_i 18))]) x.1 1 d_Code_characterOf_25 rfl hN (by decide) (by omega) rfl ?_
                                      refine dz_goto (tgt := 2) x.1 d_Code_characterOf_28 (by decide) ?_
                                      refine dz_iload_n x.1 1 d_Code_characterOf_2 rfl rfl ?_
                                      refine ly_getsL x sl_Code_32 d_Code_characterOf_3 ?_
                                      refine ly_tlnL x d_Code_characterOf_6 ?_
                                      refine dz_icmp_ge (tgt := 31) x.1 d_Code_characterOf_7 (by decide) (by omega) (by omega) (fun hc37 => by exfalso; omega) (fun hc37 => ?_)
                                      refine ly_getsL x sl_Code_32 d_Code_characterOf_10 ?_
                                      refine dz_iload_n x.1 1 d_Code_characterOf_13 rfl rfl ?_
                                      refine ly_tldcL (w := 14) x (by omega) (by decide) d_Code_characterOf_14 ?_
                                      refine dz_iload_n x.1 0 d_Code_characterOf_15 rfl rfl ?_
                                      refine dz_icmp_ne (tgt := 25) x.1 d_Code_characterOf_16 (by decide) (by omega) (by omega) (fun hc38 => ?_) (fun hc38 => ?_)
                                      · refine dz_iinc (z := 19) (ls' := [(0, .int (dz_i q)), (1, .int (dz_i 19))]) x.1 1 d_Code_characterOf_25 rfl hN (by decide) (by omega) rfl ?_
                                        refine dz_goto (tgt := 2) x.1 d_Code_characterOf_28 (by decide) ?_
                                        refine dz_iload_n x.1 1 d_Code_characterOf_2 rfl rfl ?_
                                        refine ly_getsL x sl_Code_32 d_Code_characterOf_3 ?_
                                        refine ly_tlnL x d_Code_characterOf_6 ?_
                                        refine dz_icmp_ge (tgt := 31) x.1 d_Code_characterOf_7 (by decide) (by omega) (by omega) (fun hc39 => by exfalso; omega) (fun hc39 => ?_)
                                        refine ly_getsL x sl_Code_32 d_Code_characterOf_10 ?_
                                        refine dz_iload_n x.1 1 d_Code_characterOf_13 rfl rfl ?_
                                        refine ly_tldcL (w := 30) x (by omega) (by decide) d_Code_characterOf_14 ?_
                                        refine dz_iload_n x.1 0 d_Code_characterOf_15 rfl rfl ?_
                                        refine dz_icmp_ne (tgt := 25) x.1 d_Code_characterOf_16 (by decide) (by omega) (by omega) (fun hc40 => ?_) (fun hc40 => ?_)
                                        · refine dz_iinc (z := 20) (ls' := [(0, .int (dz_i q)), (1, .int (dz_i 20))]) x.1 1 d_Code_characterOf_25 rfl hN (by decide) (by omega) rfl ?_
                                          refine dz_goto (tgt := 2) x.1 d_Code_characterOf_28 (by decide) ?_
                                          refine dz_iload_n x.1 1 d_Code_characterOf_2 rfl rfl ?_
                                          refine ly_getsL x sl_Code_32 d_Code_characterOf_3 ?_
                                          refine ly_tlnL x d_Code_characterOf_6 ?_
                                          refine dz_icmp_ge (tgt := 31) x.1 d_Code_characterOf_7 (by decide) (by omega) (by omega) (fun hc41 => by exfalso; omega) (fun hc41 => ?_)
                                          refine ly_getsL x sl_Code_32 d_Code_characterOf_10 ?_
                                          refine dz_iload_n x.1 1 d_Code_characterOf_13 rfl rfl ?_
                                          refine ly_tldcL (w := 37) x (by omega) (by decide) d_Code_characterOf_14 ?_
                                          refine dz_iload_n x.1 0 d_Code_characterOf_15 rfl rfl ?_
                                          refine dz_icmp_ne (tgt := 25) x.1 d_Code_characterOf_16 (by decide) (by omega) (by omega) (fun hc42 => ?_) (fun hc42 => ?_)
                                          · refine dz_iinc (z := 21) (ls' := [(0, .int (dz_i q)), (1, .int (dz_i 21))]) x.1 1 d_Code_characterOf_25 rfl hN (by decide) (by omega) rfl ?_
                                            refine dz_goto (tgt := 2) x.1 d_Code_characterOf_28 (by decide) ?_
                                            refine dz_iload_n x.1 1 d_Code_characterOf_2 rfl rfl ?_
                                            refine ly_getsL x sl_Code_32 d_Code_characterOf_3 ?_
                                            refine ly_tlnL x d_Code_characterOf_6 ?_
                                            refine dz_icmp_ge (tgt := 31) x.1 d_Code_characterOf_7 (by decide) (by omega) (by omega) (fun hc43 => by exfalso; omega) (fun hc43 => ?_)
                                            refine ly_getsL x sl_Code_32 d_Code_characterOf_10 ?_
                                            refine dz_iload_n x.1 1 d_Code_characterOf_13 rfl rfl ?_
                                            refine ly_tldcL (w := 39) x (by omega) (by decide) d_Code_characterOf_14 ?_
                                            refine dz_iload_n x.1 0 d_Code_characterOf_15 rfl rfl ?_
                                            refine dz_icmp_ne (tgt := 25) x.1 d_Code_characterOf_16 (by decide) (by omega) (by omega) (fun hc44 => ?_) (fun hc44 => ?_)
                                            · refine dz_iinc (z := 22) (ls' := [(0, .int (dz_i q)), (1, .int (dz_i 22))]) x.1 1 d_Code_characterOf_25 rfl hN (by decide) (by omega) rfl ?_
                                              refine dz_goto (tgt := 2) x.1 d_Code_characterOf_28 (by decide) ?_
                                              refine dz_iload_n x.1 1 d_Code_characterOf_2 rfl rfl ?_
                                              refine ly_getsL x sl_Code_32 d_Code_characterOf_3 ?_
                                              refine ly_tlnL x d_Code_characterOf_6 ?_
                                              refine dz_icmp_ge (tgt := 31) x.1 d_Code_characterOf_7 (by decide) (by omega) (by omega) (fun hc45 => by exfalso; omega) (fun hc45 => ?_)
                                              refine ly_getsL x sl_Code_32 d_Code_characterOf_10 ?_
                                              refine dz_iload_n x.1 1 d_Code_characterOf_13 rfl rfl ?_
                                              refine ly_tldcL (w := 58) x (by omega) (by decide) d_Code_characterOf_14 ?_
                                              refine dz_iload_n x.1 0 d_Code_characterOf_15 rfl rfl ?_
                                              refine dz_icmp_ne (tgt := 25) x.1 d_Code_characterOf_16 (by decide) (by omega) (by omega) (fun hc46 => ?_) (fun hc46 => ?_)
                                              · refine dz_iinc (z := 23) (ls' := [(0, .int (dz_i q)), (1, .int (dz_i 23))]) x.1 1 d_Code_characterOf_25 rfl hN (by decide) (by omega) rfl ?_
                                                refine dz_goto (tgt := 2) x.1 d_Code_characterOf_28 (by decide) ?_
                                                refine dz_iload_n x.1 1 d_Code_characterOf_2 rfl rfl ?_
                                                refine ly_getsL x sl_Code_32 d_Code_characterOf_3 ?_
                                                refine ly_tlnL x d_Code_characterOf_6 ?_
                                                refine dz_icmp_ge (tgt := 31) x.1 d_Code_characterOf_7 (by decide) (by omega) (by omega) (fun hc47 => by exfalso; omega) (fun hc47 => ?_)
                                                refine ly_getsL x sl_Code_32 d_Code_characterOf_10 ?_
                                                refine dz_iload_n x.1 1 d_Code_characterOf_13 rfl rfl ?_
                                                refine ly_tldcL (w := 45) x (by omega) (by decide) d_Code_characterOf_14 ?_
                                                refine dz_iload_n x.1 0 d_Code_characterOf_15 rfl rfl ?_
                                                refine dz_icmp_ne (tgt := 25) x.1 d_Code_characterOf_16 (by decide) (by omega) (by omega) (fun hc48 => ?_) (fun hc48 => ?_)
                                                · refine dz_iinc (z := 24) (ls' := [(0, .int (dz_i q)), (1, .int (dz_i 24))]) x.1 1 d_Code_characterOf_25 rfl hN (by decide) (by omega) rfl ?_
                                                  refine dz_goto (tgt := 2) x.1 d_Code_characterOf_28 (by decide) ?_
                                                  refine dz_iload_n x.1 1 d_Code_characterOf_2 rfl rfl ?_
                                                  refine ly_getsL x sl_Code_32 d_Code_characterOf_3 ?_
                                                  refine ly_tlnL x d_Code_characterOf_6 ?_
                                                  refine dz_icmp_ge (tgt := 31) x.1 d_Code_characterOf_7 (by decide) (by omega) (by omega) (fun hc49 => by exfalso; omega) (fun hc49 => ?_)
                                                  refine ly_getsL x sl_Code_32 d_Code_characterOf_10 ?_
                                                  refine dz_iload_n x.1 1 d_Code_characterOf_13 rfl rfl ?_
                                                  refine ly_tldcL (w := 61) x (by omega) (by decide) d_Code_characterOf_14 ?_
                                                  refine dz_iload_n x.1 0 d_Code_characterOf_15 rfl rfl ?_
                                                  refine dz_icmp_ne (tgt := 25) x.1 d_Code_characterOf_16 (by decide) (by omega) (by omega) (fun hc50 => ?_) (fun hc50 => ?_)
                                                  · refine dz_iinc (z := 25) (ls' := [(0, .int (dz_i q)), (1, .int (dz_i 25))]) x.1 1 d_Code_characterOf_25 rfl hN (by decide) (by omega) rfl ?_
                                                    refine dz_goto (tgt := 2) x.1 d_Code_characterOf_28 (by decide) ?_
                                                    refine dz_iload_n x.1 1 d_Code_characterOf_2 rfl rfl ?_
                                                    refine ly_getsL x sl_Code_32 d_Code_characterOf_3 ?_
                                                    refine ly_tlnL x d_Code_characterOf_6 ?_
                                                    refine dz_icmp_ge (tgt := 31) x.1 d_Code_characterOf_7 (by decide) (by omega) (by omega) (fun hc51 => by exfalso; omega) (fun hc51 => ?_)
                                                    refine ly_getsL x sl_Code_32 d_Code_characterOf_10 ?_
                                                    refine dz_iload_n x.1 1 d_Code_characterOf_13 rfl rfl ?_
                                                    refine ly_tldcL (w := 53) x (by omega) (by decide) d_Code_characterOf_14 ?_
                                                    refine dz_iload_n x.1 0 d_Code_characterOf_15 rfl rfl ?_
                                                    refine dz_icmp_ne (tgt := 25) x.1 d_Code_characterOf_16 (by decide) (by omega) (by omega) (fun hc52 => ?_) (fun hc52 => ?_)
                                                    · refine dz_iinc (z := 26) (ls' := [(0, .int (dz_i q)), (1, .int (dz_i 26))]) x.1 1 d_Code_characterOf_25 rfl hN (by decide) (by omega) rfl ?_
                                                      refine dz_goto (tgt := 2) x.1 d_Code_characterOf_28 (by decide) ?_
                                                      refine dz_iload_n x.1 1 d_Code_characterOf_2 rfl rfl ?_
                                                      refine ly_getsL x sl_Code_32 d_Code_characterOf_3 ?_
                                                      refine ly_tlnL x d_Code_characterOf_6 ?_
                                                      refine dz_icmp_ge (tgt := 31) x.1 d_Code_characterOf_7 (by decide) (by omega) (by omega) (fun hc53 => ?_) (fun hc53 => by exfalso; omega)
                                                      refine dz_iconst x.1 d_Code_characterOf_31 ?_
                                                      refine dz_istore_n (ls' := [(0, .int (dz_i q)), (1, .int (dz_i 0))]) x.1 d_Code_characterOf_32 rfl hN (by decide) rfl ?_
                                                      refine dz_iload_n x.1 1 d_Code_characterOf_33 rfl rfl ?_
                                                      refine ly_getsM x sl_Code_40 d_Code_characterOf_34 ?_
                                                      refine ly_tlnM x d_Code_characterOf_37 ?_
                                                      refine dz_icmp_ge (tgt := 63) x.1 d_Code_characterOf_38 (by decide) (by omega) (by omega) (fun hc54 => by exfalso; omega) (fun hc54 => ?_)
                                                      refine ly_getsM x sl_Code_40 d_Code_characterOf_41 ?_
                                                      refine dz_iload_n x.1 1 d_Code_characterOf_44 rfl rfl ?_
                                                      refine ly_tldcM (w := 50) x (by omega) (by decide) d_Code_characterOf_45 ?_
                                                      refine dz_iload_n x.1 0 d_Code_characterOf_46 rfl rfl ?_
                                                      refine dz_icmp_ne (tgt := 57) x.1 d_Code_characterOf_47 (by decide) (by omega) (by omega) (fun hc55 => ?_) (fun hc55 => ?_)
                                                      · refine dz_iinc (z := 1) (ls' := [(0, .int (dz_i q)), (1, .int (dz_i 1))]) x.1 1 d_Code_characterOf_57 rfl hN (by decide) (by omega) rfl ?_
                                                        refine dz_goto (tgt := 33) x.1 d_Code_characterOf_60 (by decide) ?_
                                                        refine dz_iload_n x.1 1 d_Code_characterOf_33 rfl rfl ?_
                                                        refine ly_getsM x sl_Code_40 d_Code_characterOf_34 ?_
                                                        refine ly_tlnM x d_Code_characterOf_37 ?_
                                                        refine dz_icmp_ge (tgt := 63) x.1 d_Code_characterOf_38 (by decide) (by omega) (by omega) (fun hc56 => by exfalso; omega) (fun hc56 => ?_)
                                                        refine ly_getsM x sl_Code_40 d_Code_characterOf_41 ?_
                                                        refine dz_iload_n x.1 1 d_Code_characterOf_44 rfl rfl ?_
                                                        refine ly_tldcM (w := 2) x (by omega) (by decide) d_Code_characterOf_45 ?_
                                                        refine dz_iload_n x.1 0 d_Code_characterOf_46 rfl rfl ?_
                                                        refine dz_icmp_ne (tgt := 57) x.1 d_Code_characterOf_47 (by decide) (by omega) (by omega) (fun hc57 => ?_) (fun hc57 => ?_)
                                                        · refine dz_iinc (z := 2) (ls' := [(0, .int (dz_i q)), (1, .int (dz_i 2))]) x.1 1 d_Code_characterOf_57 rfl hN (by decide) (by omega) rfl ?_
                                                          refine dz_goto (tgt := 33) x.1 d_Code_characterOf_60 (by decide) ?_
                                                          refine dz_iload_n x.1 1 d_Code_characterOf_33 rfl rfl ?_
                                                          refine ly_getsM x sl_Code_40 d_Code_characterOf_34 ?_
                                                          refine ly_tlnM x d_Code_characterOf_37 ?_
                                                          refine dz_icmp_ge (tgt := 63) x.1 d_Code_characterOf_38 (by decide) (by omega) (by omega) (fun hc58 => by exfalso; omega) (fun hc58 => ?_)
                                                          refine ly_getsM x sl_Code_40 d_Code_characterOf_41 ?_
                                                          refine dz_iload_n x.1 1 d_Code_characterOf_44 rfl rfl ?_
                                                          refine ly_tldcM (w := 6) x (by omega) (by decide) d_Code_characterOf_45 ?_
                                                          refine dz_iload_n x.1 0 d_Code_characterOf_46 rfl rfl ?_
                                                          refine dz_icmp_ne (tgt := 57) x.1 d_Code_characterOf_47 (by decide) (by omega) (by omega) (fun hc59 => ?_) (fun hc59 => ?_)
                                                          · refine dz_iinc (z := 3) (ls' := [(0, .int (dz_i q)), (1, .int (dz_i 3))]) x.1 1 d_Code_characterOf_57 rfl hN (by decide) (by omega) rfl ?_
                                                            refine dz_goto (tgt := 33) x.1 d_Code_characterOf_60 (by decide) ?_
                                                            refine dz_iload_n x.1 1 d_Code_characterOf_33 rfl rfl ?_
                                                            refine ly_getsM x sl_Code_40 d_Code_characterOf_34 ?_
                                                            refine ly_tlnM x d_Code_characterOf_37 ?_
                                                            refine dz_icmp_ge (tgt := 63) x.1 d_Code_characterOf_38 (by decide) (by omega) (by omega) (fun hc60 => by exfalso; omega) (fun hc60 => ?_)
                                                            refine ly_getsM x sl_Code_40 d_Code_characterOf_41 ?_
                                                            refine dz_iload_n x.1 1 d_Code_characterOf_44 rfl rfl ?_
                                                            refine ly_tldcM (w := 18) x (by omega) (by decide) d_Code_characterOf_45 ?_
                                                            refine dz_iload_n x.1 0 d_Code_characterOf_46 rfl rfl ?_
                                                            refine dz_icmp_ne (tgt := 57) x.1 d_Code_characterOf_47 (by decide) (by omega) (by omega) (fun hc61 => ?_) (fun hc61 => ?_)
                                                            · refine dz_iinc (z := 4) (ls' := [(0, .int (dz_i q)), (1, .int (dz_i 4))]) x.1 1 d_Code_characterOf_57 rfl hN (by decide) (by omega) rfl ?_
                                                              refine dz_goto (tgt := 33) x.1 d_Code_characterOf_60 (by decide) ?_
                                                              refine dz_iload_n x.1 1 d_Code_characterOf_33 rfl rfl ?_
                                                              refine ly_getsM x sl_Code_40 d_Code_characterOf_34 ?_
                                                              refine ly_tlnM x d_Code_characterOf_37 ?_
                                                              refine dz_icmp_ge (tgt := 63) x.1 d_Code_characterOf_38 (by decide) (by omega) (by omega) (fun hc62 => by exfalso; omega) (fun hc62 => ?_)
                                                              refine ly_getsM x sl_Code_40 d_Code_characterOf_41 ?_
                                                              refine dz_iload_n x.1 1 d_Code_characterOf_44 rfl rfl ?_
                                                              refine ly_tldcM (w := 38) x (by omega) (by decide) d_Code_characterOf_45 ?_
                                                              refine dz_iload_n x.1 0 d_Code_characterOf_46 rfl rfl ?_
                                                              refine dz_icmp_ne (tgt := 57) x.1 d_Code_characterOf_47 (by decide) (by omega) (by omega) (fun hc63 => ?_) (fun hc63 => ?_)
                                                              · refine dz_iinc (z := 5) (ls' := [(0, .int (dz_i q)), (1, .int (dz_i 5))]) x.1 1 d_Code_characterOf_57 rfl hN (by decide) (by omega) rfl ?_
                                                                refine dz_goto (tgt := 33) x.1 d_Code_characterOf_60 (by decide) ?_
                                                                refine dz_iload_n x.1 1 d_Code_characterOf_33 rfl rfl ?_
                                                                refine ly_getsM x sl_Code_40 d_Code_characterOf_34 ?_
                                                                refine ly_tlnM x d_Code_characterOf_37 ?_
                                                                refine dz_icmp_ge (tgt := 63) x.1 d_Code_characterOf_38 (by decide) (by omega) (by omega) (fun hc64 => by exfalso; omega) (fun hc64 => ?_)
                                                                refine ly_getsM x sl_Code_40 d_Code_characterOf_41 ?_
                                                                refine dz_iload_n x.1 1 d_Code_characterOf_44 rfl rfl ?_
                                                                refine ly_tldcM (w := 22) x (by omega) (by decide) d_Code_characterOf_45 ?_
                                                                refine dz_iload_n x.1 0 d_Code_characterOf_46 rfl rfl ?_
                                                                refine dz_icmp_ne (tgt := 57) x.1 d_Code_characterOf_47 (by decide) (by omega) (by omega) (fun hc65 => ?_) (fun hc65 => ?_)
                                                                · refine dz_iinc (z := 6) (ls' := [(0, .int (dz_i q)), (1, .int (dz_i 6))]) x.1 1 d_Code_characterOf_57 rfl hN (by decide) (by omega) rfl ?_
                                                                  refine dz_goto (tgt := 33) x.1 d_Code_characterOf_60 (by decide) ?_
                                                                  refine dz_iload_n x.1 1 d_Code_characterOf_33 rfl rfl ?_
                                                                  refine ly_getsM x sl_Code_40 d_Code_characterOf_34 ?_
                                                                  refine ly_tlnM x d_Code_characterOf_37 ?_
                                                                  refine dz_icmp_ge (tgt := 63) x.1 d_Code_characterOf_38 (by decide) (by omega) (by omega) (fun hc66 => by exfalso; omega) (fun hc66 => ?_)
                                                                  refine ly_getsM x sl_Code_40 d_Code_characterOf_41 ?_
                                                                  refine dz_iload_n x.1 1 d_Code_characterOf_44 rfl rfl ?_
                                                                  refine ly_tldcM (w := 36) x (by omega) (by decide) d_Code_characterOf_45 ?_
                                                                  refine dz_iload_n x.1 0 d_Code_characterOf_46 rfl rfl ?_
                                                                  refine dz_icmp_ne (tgt := 57) x.1 d_Code_characterOf_47 (by decide) (by omega) (by omega) (fun hc67 => ?_) (fun hc67 => ?_)
                                                                  · refine dz_iinc (z := 7) (ls' := [(0, .int (dz_i q)), (1, .int (dz_i 7))]) x.1 1 d_Code_characterOf_57 rfl hN (by decide) (by omega) rfl ?_
                                                                    refine dz_goto (tgt := 33) x.1 d_Code_characterOf_60 (by decide) ?_
                                                                    refine dz_iload_n x.1 1 d_Code_characterOf_33 rfl rfl ?_
                                                                    refine ly_getsM x sl_Code_40 d_Code_characterOf_34 ?_
                                                                    refine ly_tlnM x d_Code_characterOf_37 ?_
                                                                    refine dz_icmp_ge (tgt := 63) x.1 d_Code_characterOf_38 (by decide) (by omega) (by omega) (fun hc68 => by exfalso; omega) (fun hc68 => ?_)
                                                                    refine ly_getsM x sl_Code_40 d_Code_characterOf_41 ?_
                                                                    refine dz_iload_n x.1 1 d_Code_characterOf_44 rfl rfl ?_
                                                                    refine ly_tldcM (w := 4) x (by omega) (by decide) d_Code_characterOf_45 ?_
                                                                    refine dz_iload_n x.1 0 d_Code_characterOf_46 rfl rfl ?_
                                                                    refine dz_icmp_ne (tgt := 57) x.1 d_Code_characterOf_47 (by decide) (by omega) (by omega) (fun hc69 => ?_) (fun hc69 => ?_)
                                                                    · refine dz_iinc (z := 8) (ls' := [(0, .int (dz_i q)), (1, .int (dz_i 8))]) x.1 1 d_Code_characterOf_57 rfl hN (by decide) (by omega) rfl ?_
                                                                      refine dz_goto (tgt := 33) x.1 d_Code_characterOf_60 (by decide) ?_
                                                                      refine dz_iload_n x.1 1 d_Code_characterOf_33 rfl rfl ?_
                                                                      refine ly_getsM x sl_Code_40 d_Code_characterOf_34 ?_
                                                                      refine ly_tlnM x d_Code_characterOf_37 ?_
                                                                      refine dz_icmp_ge (tgt := 63) x.1 d_Code_characterOf_38 (by decide) (by omega) (by omega) (fun hc70 => ?_) (fun hc70 => by exfalso; omega)
                                                                      refine dz_bipush x.1 d_Code_characterOf_63 (by decide) ?_
                                                                      exact ly_iret x d_Code_characterOf_65 (dz_nch (by omega)) ⟨by rw [sp_chr_no hx (by omega)], rfl⟩
                                                                    · refine ly_ldc1 x d_Code_characterOf_50 ?_
                                                                      show ly_V κ b sz I 52 [(0, .int (dz_i q)), (1, .int (dz_i 7))] [.ref (Dt (100 + 1))]
                                                                      refine dz_iload_n x.1 1 d_Code_characterOf_52 rfl rfl ?_
                                                                      refine ly_callT (i := 1) (rest := []) x cl_Code_43 (by decide) (c_JStr_charAt l D Dt b sz I 7 (by omega)) (by decide) rfl rfl rfl (Nat.le_of_ble_eq_true rfl) d_Code_characterOf_53 (fun v I' hp71 => ?_)
                                                                      obtain ⟨rfl, hp71I⟩ := hp71
                                                                      have hp71I := hp71I.symm
                                                                      subst hp71I
                                                                      have hsb := sp_sb_rng 1 (by decide) 7
                                                                      show ly_V κ b sz I 56 [(0, .int (dz_i q)), (1, .int (dz_i 7))] [.int (dz_i (sp_sb 1 7))]
                                                                      exact ly_iret x d_Code_characterOf_56 (dz_nch (by omega)) ⟨sp_chr_f (k := 4) (by omega) (by decide), rfl⟩
                                                                  · refine ly_ldc1 x d_Code_characterOf_50 ?_
                                                                    show ly_V κ b sz I 52 [(0, .int (dz_i q)), (1, .int (dz_i 6))] [.ref (Dt (100 + 1))]
                                                                    refine dz_iload_n x.1 1 d_Code_characterOf_52 rfl rfl ?_
                                                                    refine ly_callT (i := 1) (rest := []) x cl_Code_43 (by decide) (c_JStr_charAt l D Dt b sz I 6 (by omega)) (by decide) rfl rfl rfl (Nat.le_of_ble_eq_true rfl) d_Code_characterOf_53 (fun v I' hp72 => ?_)
                                                                    obtain ⟨rfl, hp72I⟩ := hp72
                                                                    have hp72I := hp72I.symm
                                                                    subst hp72I
                                                                    have hsb := sp_sb_rng 1 (by decide) 6
                                                                    show ly_V κ b sz I 56 [(0, .int (dz_i q)), (1, .int (dz_i 6))] [.int (dz_i (sp_sb 1 6))]
                                                                    exact ly_iret x d_Code_characterOf_56 (dz_nch (by omega)) ⟨sp_chr_f (k := 36) (by omega) (by decide), rfl⟩
                                                                · refine ly_ldc1 x d_Code_characterOf_50 ?_
                                                                  show ly_V κ b sz I 52 [(0, .int (dz_i q)), (1, .int (dz_i 5))] [.ref (Dt (100 + 1))]
                                                                  refine dz_iload_n x.1 1 d_Code_characterOf_52 rfl rfl ?_
                                                                  refine ly_callT (i := 1) (rest := []) x cl_Code_43 (by decide) (c_JStr_charAt l D Dt b sz I 5 (by omega)) (by decide) rfl rfl rfl (Nat.le_of_ble_eq_true rfl) d_Code_characterOf_53 (fun v I' hp73 => ?_)
                                                                  obtain ⟨rfl, hp73I⟩ := hp73
                                                                  have hp73I := hp73I.symm
                                                                  subst hp73I
                                                                  have hsb := sp_sb_rng 1 (by decide) 5
                                                                  show ly_V κ b sz I 56 [(0, .int (dz_i q)), (1, .int (dz_i 5))] [.int (dz_i (sp_sb 1 5))]
                                                                  exact ly_iret x d_Code_characterOf_56 (dz_nch (by omega)) ⟨sp_chr_f (k := 22) (by omega) (by decide), rfl⟩
                                                              · refine ly_ldc1 x d_Code_characterOf_50 ?_
                                                                show ly_V κ b sz I 52 [(0, .int (dz_i q)), (1, .int (dz_i 4))] [.ref (Dt (100 + 1))]
                                                                refine dz_iload_n x.1 1 d_Code_characterOf_52 rfl rfl ?_
                                                                refine ly_callT (i := 1) (rest := []) x cl_Code_43 (by decide) (c_JStr_charAt l D Dt b sz I 4 (by omega)) (by decide) rfl rfl rfl (Nat.le_of_ble_eq_true rfl) d_Code_characterOf_53 (fun v I' hp74 => ?_)
                                                                obtain ⟨rfl, hp74I⟩ := hp74
                                                                have hp74I := hp74I.symm
                                                                subst hp74I
                                                                have hsb := sp_sb_rng 1 (by decide) 4
                                                                show ly_V κ b sz I 56 [(0, .int (dz_i q)), (1, .int (dz_i 4))] [.int (dz_i (sp_sb 1 4))]
                                                                exact ly_iret x d_Code_characterOf_56 (dz_nch (by omega)) ⟨sp_chr_f (k := 38) (by omega) (by decide), rfl⟩
                                                            · refine ly_ldc1 x d_Code_characterOf_50 ?_
                                                              show ly_V κ b sz I 52 [(0, .int (dz_i q)), (1, .int (dz_i 3))] [.ref (Dt (100 + 1))]
                                                              refine dz_iload_n x.1 1 d_Code_characterOf_52 rfl rfl ?_
                                                              refine ly_callT (i := 1) (rest := []) x cl_Code_43 (by decide) (c_JStr_charAt l D Dt b sz I 3 (by omega)) (by decide) rfl rfl rfl (Nat.le_of_ble_eq_true rfl) d_Code_characterOf_53 (fun v I' hp75 => ?_)
                                                              obtain ⟨rfl, hp75I⟩ := hp75
                                                              have hp75I := hp75I.symm
                                                              subst hp75I
                                                              have hsb := sp_sb_rng 1 (by decide) 3
                                                              show ly_V κ b sz I 56 [(0, .int (dz_i q)), (1, .int (dz_i 3))] [.int (dz_i (sp_sb 1 3))]
                                                              exact ly_iret x d_Code_characterOf_56 (dz_nch (by omega)) ⟨sp_chr_f (k := 18) (by omega) (by decide), rfl⟩
                                                          · refine ly_ldc1 x d_Code_characterOf_50 ?_
                                                            show ly_V κ b sz I 52 [(0, .int (dz_i q)), (1, .int (dz_i 2))] [.ref (Dt (100 + 1))]
                                                            refine dz_iload_n x.1 1 d_Code_characterOf_52 rfl rfl ?_
                                                            refine ly_callT (i := 1) (rest := []) x cl_Code_43 (by decide) (c_JStr_charAt l D Dt b sz I 2 (by omega)) (by decide) rfl rfl rfl (Nat.le_of_ble_eq_true rfl) d_Code_characterOf_53 (fun v I' hp76 => ?_)
                                                            obtain ⟨rfl, hp76I⟩ := hp76
                                                            have hp76I := hp76I.symm
                                                            subst hp76I
                                                            have hsb := sp_sb_rng 1 (by decide) 2
                                                            show ly_V κ b sz I 56 [(0, .int (dz_i q)), (1, .int (dz_i 2))] [.int (dz_i (sp_sb 1 2))]
                                                            exact ly_iret x d_Code_characterOf_56 (dz_nch (by omega)) ⟨sp_chr_f (k := 6) (by omega) (by decide), rfl⟩
                                                        · refine ly_ldc1 x d_Code_characterOf_50 ?_
                                                          show ly_V κ b sz I 52 [(0, .int (dz_i q)), (1, .int (dz_i 1))] [.ref (Dt (100 + 1))]
                                                          refine dz_iload_n x.1 1 d_Code_characterOf_52 rfl rfl ?_
                                                          refine ly_callT (i := 1) (rest := []) x cl_Code_43 (by decide) (c_JStr_charAt l D Dt b sz I 1 (by omega)) (by decide) rfl rfl rfl (Nat.le_of_ble_eq_true rfl) d_Code_characterOf_53 (fun v I' hp77 => ?_)
                                                          obtain ⟨rfl, hp77I⟩ := hp77
                                                          have hp77I := hp77I.symm
                                                          subst hp77I
                                                          have hsb := sp_sb_rng 1 (by decide) 1
                                                          show ly_V κ b sz I 56 [(0, .int (dz_i q)), (1, .int (dz_i 1))] [.int (dz_i (sp_sb 1 1))]
                                                          exact ly_iret x d_Code_characterOf_56 (dz_nch (by omega)) ⟨sp_chr_f (k := 2) (by omega) (by decide), rfl⟩
                                                      · refine ly_ldc1 x d_Code_characterOf_50 ?_
                                                        show ly_V κ b sz I 52 [(0, .int (dz_i q)), (1, .int (dz_i 0))] [.ref (Dt (100 + 1))]
                                                        refine dz_iload_n x.1 1 d_Code_characterOf_52 rfl rfl ?_
                                                        refine ly_callT (i := 1) (rest := []) x cl_Code_43 (by decide) (c_JStr_charAt l D Dt b sz I 0 (by omega)) (by decide) rfl rfl rfl (Nat.le_of_ble_eq_true rfl) d_Code_characterOf_53 (fun v I' hp78 => ?_)
                                                        obtain ⟨rfl, hp78I⟩ := hp78
                                                        have hp78I := hp78I.symm
                                                        subst hp78I
                                                        have hsb := sp_sb_rng 1 (by decide) 0
                                                        show ly_V κ b sz I 56 [(0, .int (dz_i q)), (1, .int (dz_i 0))] [.int (dz_i (sp_sb 1 0))]
                                                        exact ly_iret x d_Code_characterOf_56 (dz_nch (by omega)) ⟨sp_chr_f (k := 50) (by omega) (by decide), rfl⟩
                                                    · refine dz_bipush x.1 d_Code_characterOf_19 (by decide) ?_
                                                      refine dz_iload_n x.1 1 d_Code_characterOf_21 rfl rfl ?_
                                                      refine dz_iadd (z := 122) x.1 d_Code_characterOf_22 (by omega) ?_
                                                      refine dz_i2c x.1 d_Code_characterOf_23 (by omega) ?_
                                                      exact ly_iret x d_Code_characterOf_24 (dz_nch (by omega)) ⟨sp_chr_f (k := 53) (by omega) (by decide), rfl⟩
                                                  · refine dz_bipush x.1 d_Code_characterOf_19 (by decide) ?_
                                                    refine dz_iload_n x.1 1 d_Code_characterOf_21 rfl rfl ?_
                                                    refine dz_iadd (z := 121) x.1 d_Code_characterOf_22 (by omega) ?_
                                                    refine dz_i2c x.1 d_Code_characterOf_23 (by omega) ?_
                                                    exact ly_iret x d_Code_characterOf_24 (dz_nch (by omega)) ⟨sp_chr_f (k := 61) (by omega) (by decide), rfl⟩
                                                · refine dz_bipush x.1 d_Code_characterOf_19 (by decide) ?_
                                                  refine dz_iload_n x.1 1 d_Code_characterOf_21 rfl rfl ?_
                                                  refine dz_iadd (z := 120) x.1 d_Code_characterOf_22 (by omega) ?_
                                                  refine dz_i2c x.1 d_Code_characterOf_23 (by omega) ?_
                                                  exact ly_iret x d_Code_characterOf_24 (dz_nch (by omega)) ⟨sp_chr_f (k := 45) (by omega) (by decide), rfl⟩
                                              · refine dz_bipush x.1 d_Code_characterOf_19 (by decide) ?_
                                                refine dz_iload_n x.1 1 d_Code_characterOf_21 rfl rfl ?_
                                                refine dz_iadd (z := 119) x.1 d_Code_characterOf_22 (by omega) ?_
                                                refine dz_i2c x.1 d_Code_characterOf_23 (by omega) ?_
                                                exact ly_iret x d_Code_characterOf_24 (dz_nch (by omega)) ⟨sp_chr_f (k := 58) (by omega) (by decide), rfl⟩
                                            · refine dz_bipush x.1 d_Code_characterOf_19 (by decide) ?_
                                              refine dz_iload_n x.1 1 d_Code_characterOf_21 rfl rfl ?_
                                              refine dz_iadd (z := 118) x.1 d_Code_characterOf_22 (by omega) ?_
                                              refine dz_i2c x.1 d_Code_characterOf_23 (by omega) ?_
                                              exact ly_iret x d_Code_characterOf_24 (dz_nch (by omega)) ⟨sp_chr_f (k := 39) (by omega) (by decide), rfl⟩
                                          · refine dz_bipush x.1 d_Code_characterOf_19 (by decide) ?_
                                            refine dz_iload_n x.1 1 d_Code_characterOf_21 rfl rfl ?_
                                            refine dz_iadd (z := 117) x.1 d_Code_characterOf_22 (by omega) ?_
                                            refine dz_i2c x.1 d_Code_characterOf_23 (by omega) ?_
                                            exact ly_iret x d_Code_characterOf_24 (dz_nch (by omega)) ⟨sp_chr_f (k := 37) (by omega) (by decide), rfl⟩
                                        · refine dz_bipush x.1 d_Code_characterOf_19 (by decide) ?_
                                          refine dz_iload_n x.1 1 d_Code_characterOf_21 rfl rfl ?_
                                          refine dz_iadd (z := 116) x.1 d_Code_characterOf_22 (by omega) ?_
                                          refine dz_i2c x.1 d_Code_characterOf_23 (by omega) ?_
                                          exact ly_iret x d_Code_characterOf_24 (dz_nch (by omega)) ⟨sp_chr_f (k := 30) (by omega) (by decide), rfl⟩
                                      · refine dz_bipush x.1 d_Code_characterOf_19 (by decide) ?_
                                        refine dz_iload_n x.1 1 d_Code_characterOf_21 rfl rfl ?_
                                        refine dz_iadd (z := 115) x.1 d_Code_characterOf_22 (by omega) ?_
                                        refine dz_i2c x.1 d_Code_characterOf_23 (by omega) ?_
                                        exact ly_iret x d_Code_characterOf_24 (dz_nch (by omega)) ⟨sp_chr_f (k := 14) (by omega) (by decide), rfl⟩
                                    · refine dz_bipush x.1 d_Code_characterOf_19 (by decide) ?_
                                      refine dz_iload_n x.1 1 d_Code_characterOf_21 rfl rfl ?_
                                      refine dz_iadd (z := 114) x.1 d_Code_characterOf_22 (by omega) ?_
                                      refine dz_i2c x.1 d_Code_characterOf_23 (by omega) ?_
                                      exact ly_iret x d_Code_characterOf_24 (dz_nch (by omega)) ⟨sp_chr_f (k := 23) (by omega) (by decide), rfl⟩
                                  · refine dz_bipush x.1 d_Code_characterOf_19 (by decide) ?_
                                    refine dz_iload_n x.1 1 d_Code_characterOf_21 rfl rfl ?_
                                    refine dz_iadd (z := 113) x.1 d_Code_characterOf_22 (by omega) ?_
                                    refine dz_i2c x.1 d_Code_characterOf_23 (by omega) ?_
                                    exact ly_iret x d_Code_characterOf_24 (dz_nch (by omega)) ⟨sp_chr_f (k := 31) (by omega) (by decide), rfl⟩
                                · refine dz_bipush x.1 d_Code_characterOf_19 (by decide) ?_
                                  refine dz_iload_n x.1 1 d_Code_characterOf_21 rfl rfl ?_
                                  refine dz_iadd (z := 112) x.1 d_Code_characterOf_22 (by omega) ?_
                                  refine dz_i2c x.1 d_Code_characterOf_23 (by omega) ?_
                                  exact ly_iret x d_Code_characterOf_24 (dz_nch (by omega)) ⟨sp_chr_f (k := 15) (by omega) (by decide), rfl⟩
                              · refine dz_bipush x.1 d_Code_characterOf_19 (by decide) ?_
                                refine dz_iload_n x.1 1 d_Code_characterOf_21 rfl rfl ?_
                                refine dz_iadd (z := 111) x.1 d_Code_characterOf_22 (by omega) ?_
                                refine dz_i2c x.1 d_Code_characterOf_23 (by omega) ?_
                                exact ly_iret x d_Code_characterOf_24 (dz_nch (by omega)) ⟨sp_chr_f (k := 21) (by omega) (by decide), rfl⟩
                            · refine dz_bipush x.1 d_Code_characterOf_19 (by decide) ?_
                              refine dz_iload_n x.1 1 d_Code_characterOf_21 rfl rfl ?_
                              refine dz_iadd (z := 110) x.1 d_Code_characterOf_22 (by omega) ?_
                              refine dz_i2c x.1 d_Code_characterOf_23 (by omega) ?_
                              exact ly_iret x d_Code_characterOf_24 (dz_nch (by omega)) ⟨sp_chr_f (k := 29) (by omega) (by decide), rfl⟩
                          · refine dz_bipush x.1 d_Code_characterOf_19 (by decide) ?_
                            refine dz_iload_n x.1 1 d_Code_characterOf_21 rfl rfl ?_
                            refine dz_iadd (z := 109) x.1 d_Code_characterOf_22 (by omega) ?_
                            refine dz_i2c x.1 d_Code_characterOf_23 (by omega) ?_
                            exact ly_iret x d_Code_characterOf_24 (dz_nch (by omega)) ⟨sp_chr_f (k := 13) (by omega) (by decide), rfl⟩
                        · refine dz_bipush x.1 d_Code_characterOf_19 (by decide) ?_
                          refine dz_iload_n x.1 1 d_Code_characterOf_21 rfl rfl ?_
                          refine dz_iadd (z := 108) x.1 d_Code_characterOf_22 (by omega) ?_
                          refine dz_i2c x.1 d_Code_characterOf_23 (by omega) ?_
                          exact ly_iret x d_Code_characterOf_24 (dz_nch (by omega)) ⟨sp_chr_f (k := 7) (by omega) (by decide), rfl⟩
                      · refine dz_bipush x.1 d_Code_characterOf_19 (by decide) ?_
                        refine dz_iload_n x.1 1 d_Code_characterOf_21 rfl rfl ?_
                        refine dz_iadd (z := 107) x.1 d_Code_characterOf_22 (by omega) ?_
                        refine dz_i2c x.1 d_Code_characterOf_23 (by omega) ?_
                        exact ly_iret x d_Code_characterOf_24 (dz_nch (by omega)) ⟨sp_chr_f (k := 5) (by omega) (by decide), rfl⟩
                    · refine dz_bipush x.1 d_Code_characterOf_19 (by decide) ?_
                      refine dz_iload_n x.1 1 d_Code_characterOf_21 rfl rfl ?_
                      refine dz_iadd (z := 106) x.1 d_Code_characterOf_22 (by omega) ?_
                      refine dz_i2c x.1 d_Code_characterOf_23 (by omega) ?_
                      exact ly_iret x d_Code_characterOf_24 (dz_nch (by omega)) ⟨sp_chr_f (k := 26) (by omega) (by decide), rfl⟩
                  · refine dz_bipush x.1 d_Code_characterOf_19 (by decide) ?_
                    refine dz_iload_n x.1 1 d_Code_characterOf_21 rfl rfl ?_
                    refine dz_iadd (z := 105) x.1 d_Code_characterOf_22 (by omega) ?_
                    refine dz_i2c x.1 d_Code_characterOf_23 (by omega) ?_
                    exact ly_iret x d_Code_characterOf_24 (dz_nch (by omega)) ⟨sp_chr_f (k := 10) (by omega) (by decide), rfl⟩
                · refine dz_bipush x.1 d_Code_characterOf_19 (by decide) ?_
                  refine dz_iload_n x.1 1 d_Code_characterOf_21 rfl rfl ?_
                  refine dz_iadd (z := 104) x.1 d_Code_characterOf_22 (by omega) ?_
                  refine dz_i2c x.1 d_Code_characterOf_23 (by omega) ?_
                  exact ly_iret x d_Code_characterOf_24 (dz_nch (by omega)) ⟨sp_chr_f (k := 19) (by omega) (by decide), rfl⟩
              · refine dz_bipush x.1 d_Code_characterOf_19 (by decide) ?_
                refine dz_iload_n x.1 1 d_Code_characterOf_21 rfl rfl ?_
                refine dz_iadd (z := 103) x.1 d_Code_characterOf_22 (by omega) ?_
                refine dz_i2c x.1 d_Code_characterOf_23 (by omega) ?_
                exact ly_iret x d_Code_characterOf_24 (dz_nch (by omega)) ⟨sp_chr_f (k := 27) (by omega) (by decide), rfl⟩
            · refine dz_bipush x.1 d_Code_characterOf_19 (by decide) ?_
              refine dz_iload_n x.1 1 d_Code_characterOf_21 rfl rfl ?_
              refine dz_iadd (z := 102) x.1 d_Code_characterOf_22 (by omega) ?_
              refine dz_i2c x.1 d_Code_characterOf_23 (by omega) ?_
              exact ly_iret x d_Code_characterOf_24 (dz_nch (by omega)) ⟨sp_chr_f (k := 11) (by omega) (by decide), rfl⟩
          · refine dz_bipush x.1 d_Code_characterOf_19 (by decide) ?_
            refine dz_iload_n x.1 1 d_Code_characterOf_21 rfl rfl ?_
            refine dz_iadd (z := 101) x.1 d_Code_characterOf_22 (by omega) ?_
            refine dz_i2c x.1 d_Code_characterOf_23 (by omega) ?_
            exact ly_iret x d_Code_characterOf_24 (dz_nch (by omega)) ⟨sp_chr_f (k := 17) (by omega) (by decide), rfl⟩
        · refine dz_bipush x.1 d_Code_characterOf_19 (by decide) ?_
          refine dz_iload_n x.1 1 d_Code_characterOf_21 rfl rfl ?_
          refine dz_iadd (z := 100) x.1 d_Code_characterOf_22 (by omega) ?_
          refine dz_i2c x.1 d_Code_characterOf_23 (by omega) ?_
          exact ly_iret x d_Code_characterOf_24 (dz_nch (by omega)) ⟨sp_chr_f (k := 25) (by omega) (by decide), rfl⟩
      · refine dz_bipush x.1 d_Code_characterOf_19 (by decide) ?_
        refine dz_iload_n x.1 1 d_Code_characterOf_21 rfl rfl ?_
        refine dz_iadd (z := 99) x.1 d_Code_characterOf_22 (by omega) ?_
        refine dz_i2c x.1 d_Code_characterOf_23 (by omega) ?_
        exact ly_iret x d_Code_characterOf_24 (dz_nch (by omega)) ⟨sp_chr_f (k := 9) (by omega) (by decide), rfl⟩
    · refine dz_bipush x.1 d_Code_characterOf_19 (by decide) ?_
      refine dz_iload_n x.1 1 d_Code_characterOf_21 rfl rfl ?_
      refine dz_iadd (z := 98) x.1 d_Code_characterOf_22 (by omega) ?_
      refine dz_i2c x.1 d_Code_characterOf_23 (by omega) ?_
      exact ly_iret x d_Code_characterOf_24 (dz_nch (by omega)) ⟨sp_chr_f (k := 3) (by omega) (by decide), rfl⟩
  · refine dz_bipush x.1 d_Code_characterOf_19 (by decide) ?_
    refine dz_iload_n x.1 1 d_Code_characterOf_21 rfl rfl ?_
    refine dz_iadd (z := 97) x.1 d_Code_characterOf_22 (by omega) ?_
    refine dz_i2c x.1 d_Code_characterOf_23 (by omega) ?_
    exact ly_iret x d_Code_characterOf_24 (dz_nch (by omega)) ⟨sp_chr_f (k := 1) (by omega) (by decide), rfl⟩
end
section
/-- the character at i of n typed ones, or 0 -/
def sp_at (t : Int → Int) (n i : Int) : Int := if 0 ≤ i ∧ i < n then t i else 0
/-- what is typed: n characters of 32 to 126 -/
def sp_ok (t : Int → Int) (n : Int) : Prop := 0 ≤ n ∧ n ≤ 80 ∧ ∀ j : Int, 0 ≤ j → j < n → 32 ≤ t j ∧ t j ≤ 126
theorem sp_at_rng {t : Int → Int} {n : Int} (h : sp_ok t n) (i : Int) : 0 ≤ sp_at t n i ∧ sp_at t n i ≤ 126 := by
  unfold sp_at
  split
  · have := h.2.2 i (by omega) (by omega); omega
  · omega
/-- whether a character has a cell -/
def sp_has (c : Int) : Bool := decide (c = 32 ∨ ((97 ≤ c ∧ c ≤ 122) ∨ (65 ≤ c ∧ c ≤ 90)) ∨ (48 ≤ c ∧ c ≤ 57) ∨ 0 ≤ sp_ix 1 c)
def sp_allF (t : Int → Int) : Nat → Bool
  | 0 => true
  | k + 1 => sp_allF t k && sp_has (t k)
theorem sp_allF_t {t : Int → Int} {n : Nat} (h : ∀ j : Int, 0 ≤ j → j < n → sp_has (t j) = true) : sp_allF t n = true := by
  induction n with
  | zero => rfl
  | succ k ih =>
    simp only [sp_allF, Bool.and_eq_true]
    exact ⟨ih (fun j h1 h2 => h j h1 (by omega)), h k (by omega) (by omega)⟩
theorem sp_allF_f {t : Int → Int} {n : Nat} {j : Int} (h1 : 0 ≤ j) (h2 : j < n) (h : sp_has (t j) = false) : sp_allF t n = false := by
  induction n with
  | zero => omega
  | succ k ih =>
    simp only [sp_allF, Bool.and_eq_false_iff]
    by_cases e : j = (k : Int)
    · right; rw [← e]; exact h
    · left; exact ih (by omega)
/-- a cell of a block: its dots alone; 0 outside -/
def sp_ca (f : Int → Int) (m j : Int) : Int := if 0 ≤ j ∧ j < m then f j % 64 else 0
theorem sp_ca_rng (f : Int → Int) (m j : Int) : 0 ≤ sp_ca f m j ∧ sp_ca f m j < 64 := by unfold sp_ca; split <;> omega
set_option maxRecDepth 100000 in
set_option maxHeartbeats 4000000 in
theorem c_Typed_put (l : Launch) (D : va_G) (Dt : Nat → ClassId) (b sz : Nat) (I : dz_Hp) (n : Int) (hn : I (b + 1) 1 = n) (hT : sp_ok (I (b + 2)) n) (hn2 : n < 80) (c : Int) (hc : 0 ≤ c ∧ c < 65536) : ly_M l D Dt b sz y_Typed_put b_Typed_put 2 none 1 [.ref (b + 1), .int (dz_i c)] I (fun v I' => v = none ∧ I' = dz_up (dz_up I (b + 2) n c) (b + 1) 1 (n + 1)) := by
  refine ly_enter R_Typed (by decide) rfl (Nat.le_of_ble_eq_true rfl) (ly_cat _ 0 rfl) (fun κ x => ?_)
  have hN := ly_N x
  have h80 := hT.1
  have h81 := hT.2.1
  show ly_V κ b sz I 0 [(0, .ref (b + 1)), (1, .int (dz_i c))] []
  refine dz_aload_n x.1 0 d_Typed_put_0 rfl rfl ?_
  refine dz_geti (z := n) x.1 (ly_Typed b) fl_Typed_15 d_Typed_put_1 hn ?_
  refine dz_aload_n x.1 0 d_Typed_put_4 rfl rfl ?_
  refine dz_getr x.1 (ly_Typed b) fl_Typed_9 (lr_Typed_0 b) d_Typed_put_5 ?_
  refine dz_alen x.1 (ly_TypedRow b) (by decide) d_Typed_put_8 ?_
  show ly_V κ b sz I 9 [(0, .ref (b + 1)), (1, .int (dz_i c))] [.int (dz_i 80), .int (dz_i n)]
  refine dz_icmp_ge (tgt := 32) x.1 d_Typed_put_9 (by decide) (by omega) (by omega) (fun hc1 => by exfalso; omega) (fun hc1 => ?_)
  refine dz_aload_n x.1 0 d_Typed_put_12 rfl rfl ?_
  refine dz_getr x.1 (ly_Typed b) fl_Typed_9 (lr_Typed_0 b) d_Typed_put_13 ?_
  refine dz_aload_n x.1 0 d_Typed_put_16 rfl rfl ?_
  refine dz_geti (z := n) x.1 (ly_Typed b) fl_Typed_15 d_Typed_put_17 hn ?_
  refine dz_iload_n x.1 1 d_Typed_put_20 rfl rfl ?_
  refine dz_cast x.1 (ly_TypedRow b) (by decide) (by omega) (by omega) d_Typed_put_21 ?_
  refine dz_aload_n x.1 0 d_Typed_put_22 rfl rfl ?_
  refine dz_dup x.1 d_Typed_put_23 rfl ?_
  refine dz_geti (z := n) x.1 (ly_Typed b) fl_Typed_15 d_Typed_put_24 (by rw [dz_up_n _ _ _ (by omega)]; exact hn) ?_
  refine dz_iconst x.1 d_Typed_put_27 ?_
  refine dz_iadd (z := n + 1) x.1 d_Typed_put_28 (by omega) ?_
  refine dz_puti x.1 (ly_Typed b) fl_Typed_15 fp_Typed_1 d_Typed_put_29 ?_
  exact ly_vret x d_Typed_put_32 ⟨rfl, rfl⟩
set_option maxRecDepth 100000 in
set_option maxHeartbeats 4000000 in
theorem c_Typed_characterAt (l : Launch) (D : va_G) (Dt : Nat → ClassId) (b sz : Nat) (I : dz_Hp) (n : Int) (hn : I (b + 1) 1 = n) (hT : sp_ok (I (b + 2)) n) (i : Int) (hi : -2147483648 ≤ i ∧ i < 2147483648) : ly_M l D Dt b sz y_Typed_characterAt b_Typed_characterAt 2 (some .char) 1 [.ref (b + 1), .int (dz_i i)] I (fun v I' => v = some (.int (dz_i (sp_at (I (b + 2)) n i))) ∧ I' = I) := by
  refine ly_enter R_Typed (by decide) rfl (Nat.le_of_ble_eq_true rfl) (ly_cat _ 0 rfl) (fun κ x => ?_)
  have hN := ly_N x
  have h80 := hT.1
  have h81 := hT.2.1
  show ly_V κ b sz I 0 [(0, .ref (b + 1)), (1, .int (dz_i i))] []
  refine dz_iload_n x.1 1 d_Typed_characterAt_0 rfl rfl ?_
  refine dz_if_lt (tgt := 21) x.1 d_Typed_characterAt_1 (by decide) (by omega) (fun hc1 => ?_) (fun hc1 => ?_)
  · refine dz_iconst x.1 d_Typed_characterAt_21 ?_
    exact ly_iret x d_Typed_characterAt_22 (dz_nch (by omega)) ⟨by unfold sp_at; first | rw [if_pos (by omega)] | rw [if_neg (by omega)], rfl⟩
  · refine dz_iload_n x.1 1 d_Typed_characterAt_4 rfl rfl ?_
    refine dz_aload_n x.1 0 d_Typed_characterAt_5 rfl rfl ?_
    refine dz_geti (z := n) x.1 (ly_Typed b) fl_Typed_15 d_Typed_characterAt_6 hn ?_
    refine dz_icmp_ge (tgt := 21) x.1 d_Typed_characterAt_9 (by decide) (by omega) (by omega) (fun hc2 => ?_) (fun hc2 => ?_)
    · refine dz_iconst x.1 d_Typed_characterAt_21 ?_
      exact ly_iret x d_Typed_characterAt_22 (dz_nch (by omega)) ⟨by unfold sp_at; first | rw [if_pos (by omega)] | rw [if_neg (by omega)], rfl⟩
    · refine dz_aload_n x.1 0 d_Typed_characterAt_12 rfl rfl ?_
      refine dz_getr x.1 (ly_Typed b) fl_Typed_9 (lr_Typed_0 b) d_Typed_characterAt_13 ?_
      refine dz_iload_n x.1 1 d_Typed_characterAt_16 rfl rfl ?_
      refine dz_cald (w := (I (b + 2) i)) x.1 (ly_TypedRow b) (by decide) (by omega) d_Typed_characterAt_17 rfl ?_
      refine dz_goto (tgt := 22) x.1 d_Typed_characterAt_18 (by decide) ?_
      exact ly_iret x d_Typed_characterAt_22 (dz_nch (by have := hT.2.2 i (by omega) (by omega); omega)) ⟨by unfold sp_at; first | rw [if_pos (by omega)] | rw [if_neg (by omega)], rfl⟩
set_option maxRecDepth 100000 in
set_option maxHeartbeats 4000000 in
theorem c_Typed_canBeTranslated (l : Launch) (D : va_G) (Dt : Nat → ClassId) (b sz : Nat) (I : dz_Hp) (n : Int) (hn : I (b + 1) 1 = n) (hT : sp_ok (I (b + 2)) n)  : ly_M l D Dt b sz y_Typed_canBeTranslated b_Typed_canBeTranslated 2 (some .boolean) 6 [.ref (b + 1)] I (fun v I' => v = some (.int (dz_i (if sp_allF (I (b + 2)) n.toNat = true then 1 else 0))) ∧ I' = I) := by
  refine ly_enter R_Typed (by decide) rfl (Nat.le_of_ble_eq_true rfl) (ly_cat _ 0 rfl) (fun κ x => ?_)
  have hN := ly_N x
  have h80 := hT.1
  have h81 := hT.2.1
  show ly_V κ b sz I 0 [(0, .ref (b + 1))] []
  have loop : ∀ (k : Nat) (i : Int), 0 ≤ i ∧ i + (k : Int) = n → (∀ j : Int, 0 ≤ j → j < i → sp_has (I (b + 2) j) = true) → ly_V κ b sz I 2 [(0, .ref (b + 1)), (1, .int (dz_i i))] [] := by
    intro k
    induction k with
    | zero =>
      intro i hi hv
      refine dz_iload_n x.1 1 d_Typed_canBeTranslated_2 rfl rfl ?_
      refine dz_aload_n x.1 0 d_Typed_canBeTranslated_3 rfl rfl ?_
      refine dz_geti (z := n) x.1 (ly_Typed b) fl_Typed_15 d_Typed_canBeTranslated_4 hn ?_
      refine dz_icmp_ge (tgt := 30) x.1 d_Typed_canBeTranslated_7 (by decide) (by omega) (by omega) (fun hc1 => ?_) (fun hc1 => by exfalso; omega)
      refine dz_iconst x.1 d_Typed_canBeTranslated_30 ?_
      exact ly_iret x d_Typed_canBeTranslated_31 (dz_nbo (by omega)) ⟨by rw [if_pos (sp_allF_t (fun j h1 h2 => hv j h1 (by omega)))], rfl⟩
    | succ k ih =>
      intro i hi hv
      have hch := hT.2.2 i (by omega) (by omega)
      refine dz_iload_n x.1 1 d_Typed_canBeTranslated_2 rfl rfl ?_
      refine dz_aload_n x.1 0 d_Typed_canBeTranslated_3 rfl rfl ?_
      refine dz_geti (z := n) x.1 (ly_Typed b) fl_Typed_15 d_Typed_canBeTranslated_4 hn ?_
      refine dz_icmp_ge (tgt := 30) x.1 d_Typed_canBeTranslated_7 (by decide) (by omega) (by omega) (fun hc1 => by exfalso; omega) (fun hc1 => ?_)
      refine dz_aload_n x.1 0 d_Typed_canBeTranslated_10 rfl rfl ?_
      refine dz_getr x.1 (ly_Typed b) fl_Typed_9 (lr_Typed_0 b) d_Typed_canBeTranslated_11 ?_
      refine dz_iload_n x.1 1 d_Typed_canBeTranslated_14 rfl rfl ?_
      refine dz_cald (w := (I (b + 2) i)) x.1 (ly_TypedRow b) (by decide) (by omega) d_Typed_canBeTranslated_15 rfl ?_
      refine ly_callS (rest := []) x cl_Typed_19 (c_Code_hasCell l D Dt b sz I (I (b + 2) i) (by omega)) (by decide) rfl rfl (Nat.le_of_ble_eq_true rfl) d_Typed_canBeTranslated_16 (fun v I' hp2 => ?_)
      obtain ⟨rfl, hp2I⟩ := hp2
      have hp2I := hp2I.symm
      subst hp2I
      show ly_V κ b sz I 19 [(0, .ref (b + 1)), (1, .int (dz_i i))] [.int (dz_i (if I (b + 2) i = 32 ∨ ((97 ≤ I (b + 2) i ∧ I (b + 2) i ≤ 122) ∨ (65 ≤ I (b + 2) i ∧ I (b + 2) i ≤ 90)) ∨ (48 ≤ I (b + 2) i ∧ I (b + 2) i ≤ 57) ∨ 0 ≤ sp_ix 1 (I (b + 2) i) then 1 else 0))]
      refine dz_if_ne (tgt := 24) x.1 d_Typed_canBeTranslated_19 (by decide) (dz_br _) (fun hc3 => ?_) (fun hc3 => ?_)
      · have hc3 : I (b + 2) i = 32 ∨ ((97 ≤ I (b + 2) i ∧ I (b + 2) i ≤ 122) ∨ (65 ≤ I (b + 2) i ∧ I (b + 2) i ≤ 90)) ∨ (48 ≤ I (b + 2) i ∧ I (b + 2) i ≤ 57) ∨ 0 ≤ sp_ix 1 (I (b + 2) i) := dz_bt hc3
        refine dz_iinc (z := i + 1) (ls' := [(0, .ref (b + 1)), (1, .int (dz_i (i + 1)))]) x.1 1 d_Typed_canBeTranslated_24 rfl hN (by decide) (by omega) rfl ?_
        refine dz_goto (tgt := 2) x.1 d_Typed_canBeTranslated_27 (by decide) ?_
        exact ih (i + 1) (by omega) (fun j h1 h2 => by
        by_cases e : j = i
        · rw [e]; exact decide_eq_true hc3
        · exact hv j h1 (by omega))
      · have hc3 : ¬ (I (b + 2) i = 32 ∨ ((97 ≤ I (b + 2) i ∧ I (b + 2) i ≤ 122) ∨ (65 ≤ I (b + 2) i ∧ I (b + 2) i ≤ 90)) ∨ (48 ≤ I (b + 2) i ∧ I (b + 2) i ≤ 57) ∨ 0 ≤ sp_ix 1 (I (b + 2) i)) := dz_bf hc3
        refine dz_iconst x.1 d_Typed_canBeTranslated_22 ?_
        exact ly_iret x d_Typed_canBeTranslated_23 (dz_nbo (by omega)) ⟨by rw [if_neg (by rw [sp_allF_f (j := i) (by omega) (by omega) (decide_eq_false hc3)]; decide)], rfl⟩
  refine dz_iconst x.1 d_Typed_canBeTranslated_0 ?_
  refine dz_istore_n (ls' := [(0, .ref (b + 1)), (1, .int (dz_i 0))]) x.1 d_Typed_canBeTranslated_1 rfl hN (by decide) rfl ?_
  exact loop n.toNat 0 (by omega) (fun j h1 h2 => by omega)
set_option maxRecDepth 100000 in
set_option maxHeartbeats 4000000 in
theorem c_Block_begin (l : Launch) (D : va_G) (Dt : Nat → ClassId) (b sz : Nat) (I : dz_Hp) (i : Nat) (hi : i < 12) (k : Int) : ly_M l D Dt b sz y_Block_begin b_Block_begin 2 none 1 [.ref (b + (82 + 4 * i)), .int (dz_i k)] I (fun v I' => v = none ∧ I' = dz_up (dz_up I (b + (82 + 4 * i)) 0 k) (b + (82 + 4 * i)) 2 0) := by
  refine ly_enter R_Block (by decide) rfl (Nat.le_of_ble_eq_true rfl) (ly_cat _ 0 rfl) (fun κ x => ?_)
  have hN := ly_N x
  show ly_V κ b sz I 0 [(0, .ref (b + (82 + 4 * i))), (1, .int (dz_i k))] []
  refine dz_aload_n x.1 0 d_Block_begin_0 rfl rfl ?_
  refine dz_iload_n x.1 1 d_Block_begin_1 rfl rfl ?_
  refine dz_puti x.1 (ly_Block b hi) fl_Block_21 fp_Block_0 d_Block_begin_2 ?_
  refine dz_aload_n x.1 0 d_Block_begin_5 rfl rfl ?_
  refine dz_iconst x.1 d_Block_begin_6 ?_
  refine dz_puti x.1 (ly_Block b hi) fl_Block_25 fp_Block_2 d_Block_begin_7 ?_
  exact ly_vret x d_Block_begin_10 ⟨rfl, rfl⟩
set_option maxRecDepth 100000 in
set_option maxHeartbeats 4000000 in
theorem c_Block_put (l : Launch) (D : va_G) (Dt : Nat → ClassId) (b sz : Nat) (I : dz_Hp) (i : Nat) (hi : i < 12) (m : Int) (hm : I (b + (82 + 4 * i)) 2 = m) (hm2 : 0 ≤ m ∧ m ≤ 200) (hm3 : m < 200) (p q : Int) : ly_M l D Dt b sz y_Block_put b_Block_put 3 none 1 [.ref (b + (82 + 4 * i)), .int (dz_i p), .int (dz_i q)] I (fun v I' => v = none ∧ I' = dz_up (dz_up I (b + (83 + 4 * i)) m (p + 64 * q)) (b + (82 + 4 * i)) 2 (m + 1)) := by
  refine ly_enter R_Block (by decide) rfl (Nat.le_of_ble_eq_true rfl) (ly_cat _ 0 rfl) (fun κ x => ?_)
  have hN := ly_N x
  show ly_V κ b sz I 0 [(0, .ref (b + (82 + 4 * i))), (1, .int (dz_i p)), (2, .int (dz_i q))] []
  refine dz_aload_n x.1 0 d_Block_put_0 rfl rfl ?_
  refine dz_geti (z := m) x.1 (ly_Block b hi) fl_Block_25 d_Block_put_1 hm ?_
  refine dz_aload_n x.1 0 d_Block_put_4 rfl rfl ?_
  refine dz_getr x.1 (ly_Block b hi) fl_Block_9 (lr_Block_1 b hi) d_Block_put_5 ?_
  refine dz_alen x.1 (ly_BCells b hi) (by decide) d_Block_put_8 ?_
  show ly_V κ b sz I 9 [(0, .ref (b + (82 + 4 * i))), (1, .int (dz_i p)), (2, .int (dz_i q))] [.int (dz_i 200), .int (dz_i m)]
  refine dz_icmp_ge (tgt := 37) x.1 d_Block_put_9 (by decide) (by omega) (by omega) (fun hc1 => by exfalso; omega) (fun hc1 => ?_)
  refine dz_aload_n x.1 0 d_Block_put_12 rfl rfl ?_
  refine dz_getr x.1 (ly_Block b hi) fl_Block_9 (lr_Block_1 b hi) d_Block_put_13 ?_
  refine dz_aload_n x.1 0 d_Block_put_16 rfl rfl ?_
  refine dz_geti (z := m) x.1 (ly_Block b hi) fl_Block_25 d_Block_put_17 hm ?_
  refine dz_iload_n x.1 1 d_Block_put_20 rfl rfl ?_
  refine dz_bipush x.1 d_Block_put_21 (by decide) ?_
  refine dz_iload_n x.1 2 d_Block_put_23 rfl rfl ?_
  refine dz_imul (z := 64 * q) x.1 d_Block_put_24 (by omega) ?_
  refine dz_iadd (z := p + 64 * q) x.1 d_Block_put_25 (by omega) ?_
  refine dz_iast x.1 (ly_BCells b hi) (by decide) (by omega) d_Block_put_26 ?_
  refine dz_aload_n x.1 0 d_Block_put_27 rfl rfl ?_
  refine dz_dup x.1 d_Block_put_28 rfl ?_
  refine dz_geti (z := m) x.1 (ly_Block b hi) fl_Block_25 d_Block_put_29 (by rw [dz_up_n _ _ _ (by omega)]; exact hm) ?_
  refine dz_iconst x.1 d_Block_put_32 ?_
  refine dz_iadd (z := m + 1) x.1 d_Block_put_33 (by omega) ?_
  refine dz_puti x.1 (ly_Block b hi) fl_Block_25 fp_Block_2 d_Block_put_34 ?_
  exact ly_vret x d_Block_put_37 ⟨rfl, rfl⟩
set_option maxRecDepth 100000 in
set_option maxHeartbeats 4000000 in
theorem c_Block_cellAt (l : Launch) (D : va_G) (Dt : Nat → ClassId) (b sz : Nat) (I : dz_Hp) (i : Nat) (hi : i < 12) (m : Int) (hm : I (b + (82 + 4 * i)) 2 = m) (hm2 : 0 ≤ m ∧ m ≤ 200) (hp : ∀ j : Int, 0 ≤ j → j < m → 0 ≤ I (b + (83 + 4 * i)) j ∧ I (b + (83 + 4 * i)) j < 2147483648) (j : Int) (hj : -2147483648 ≤ j ∧ j < 2147483648) : ly_M l D Dt b sz y_Block_cellAt b_Block_cellAt 2 (some .int) 1 [.ref (b + (82 + 4 * i)), .int (dz_i j)] I (fun v I' => v = some (.int (dz_i (sp_ca (I (b + (83 + 4 * i))) m j))) ∧ I' = I) := by
  refine ly_enter R_Block (by decide) rfl (Nat.le_of_ble_eq_true rfl) (ly_cat _ 0 rfl) (fun κ x => ?_)
  have hN := ly_N x
  show ly_V κ b sz I 0 [(0, .ref (b + (82 + 4 * i))), (1, .int (dz_i j))] []
  refine dz_iload_n x.1 1 d_Block_cellAt_0 rfl rfl ?_
  refine dz_if_lt (tgt := 24) x.1 d_Block_cellAt_1 (by decide) (by omega) (fun hc1 => ?_) (fun hc1 => ?_)
  · refine dz_iconst x.1 d_Block_cellAt_24 ?_
    exact ly_iret x d_Block_cellAt_25 rfl ⟨by unfold sp_ca; first | rw [if_pos (by omega)] | rw [if_neg (by omega)], rfl⟩
  · refine dz_iload_n x.1 1 d_Block_cellAt_4 rfl rfl ?_
    refine dz_aload_n x.1 0 d_Block_cellAt_5 rfl rfl ?_
    refine dz_geti (z := m) x.1 (ly_Block b hi) fl_Block_25 d_Block_cellAt_6 hm ?_
    refine dz_icmp_ge (tgt := 24) x.1 d_Block_cellAt_9 (by decide) (by omega) (by omega) (fun hc2 => ?_) (fun hc2 => ?_)
    · refine dz_iconst x.1 d_Block_cellAt_24 ?_
      exact ly_iret x d_Block_cellAt_25 rfl ⟨by unfold sp_ca; first | rw [if_pos (by omega)] | rw [if_neg (by omega)], rfl⟩
    · refine dz_aload_n x.1 0 d_Block_cellAt_12 rfl rfl ?_
      refine dz_getr x.1 (ly_Block b hi) fl_Block_9 (lr_Block_1 b hi) d_Block_cellAt_13 ?_
      refine dz_iload_n x.1 1 d_Block_cellAt_16 rfl rfl ?_
      refine dz_iald (w := (I (b + (83 + 4 * i)) j)) x.1 (ly_BCells b hi) (by decide) (by omega) d_Block_cellAt_17 rfl ?_
      have hv := hp j (by omega) (by omega)
      refine dz_bipush x.1 d_Block_cellAt_18 (by decide) ?_
      refine dz_irem x.1 d_Block_cellAt_20 (by omega) (by omega) ?_
      refine dz_goto (tgt := 25) x.1 d_Block_cellAt_21 (by decide) ?_
      exact ly_iret x d_Block_cellAt_25 rfl ⟨by unfold sp_ca; first | rw [if_pos (by omega)] | rw [if_neg (by omega)], rfl⟩
end
