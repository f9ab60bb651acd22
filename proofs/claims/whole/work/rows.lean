section
-- ===== PART A: goes FIRST, ahead of the names: the tables' words, and 'selects' of the private methods out of them =====
/-- a private method of a class that the tables say can be made, by its rows of tables_1 -/
def lw_okq (q : MethodName × Nat) : Prop := (q.1.cls ≠ "java/lang/invoke/MethodHandle" ∧ q.1.cls ≠ "java/lang/invoke/VarHandle") ∧ Cond.instantiable q.1.cls q.2 ∈ tables_1 ∧ Cond.privateMethod q.1 ∈ tables_1 ∧ Cond.instanceMethod q.1 ∈ tables_1
theorem lw_p0 : lw_okq (⟨"FormatDump$Directive", "forget", "()V"⟩, 12) := ⟨⟨by decide +kernel, by decide +kernel⟩, List.mem_of_getElem? (i := 145) (by decide +kernel), List.mem_of_getElem? (i := 151) (by decide +kernel), List.mem_of_getElem? (i := 152) (by decide +kernel)⟩
theorem lw_p1 : lw_okq (⟨"FormatDump$Printer", "readPiece", "(LFormatDump$Row;I)I"⟩, 8) := ⟨⟨by decide +kernel, by decide +kernel⟩, List.mem_of_getElem? (i := 126) (by decide +kernel), List.mem_of_getElem? (i := 364) (by decide +kernel), List.mem_of_getElem? (i := 365) (by decide +kernel)⟩
theorem lw_p2 : lw_okq (⟨"FormatDump$Escape", "readLetter", "(LFormatDump$Row;I)Z"⟩, 2) := ⟨⟨by decide +kernel, by decide +kernel⟩, List.mem_of_getElem? (i := 132) (by decide +kernel), List.mem_of_getElem? (i := 376) (by decide +kernel), List.mem_of_getElem? (i := 377) (by decide +kernel)⟩
theorem lw_p3 : lw_okq (⟨"FormatDump$Escape", "readOctal", "(LFormatDump$Row;I)V"⟩, 2) := ⟨⟨by decide +kernel, by decide +kernel⟩, List.mem_of_getElem? (i := 132) (by decide +kernel), List.mem_of_getElem? (i := 384) (by decide +kernel), List.mem_of_getElem? (i := 385) (by decide +kernel)⟩
theorem lw_p4 : lw_okq (⟨"FormatDump$Directive", "readFlags", "(LFormatDump$Row;)V"⟩, 12) := ⟨⟨by decide +kernel, by decide +kernel⟩, List.mem_of_getElem? (i := 145) (by decide +kernel), List.mem_of_getElem? (i := 399) (by decide +kernel), List.mem_of_getElem? (i := 400) (by decide +kernel)⟩
theorem lw_p5 : lw_okq (⟨"FormatDump$Directive", "noteFlag", "(I)Z"⟩, 12) := ⟨⟨by decide +kernel, by decide +kernel⟩, List.mem_of_getElem? (i := 145) (by decide +kernel), List.mem_of_getElem? (i := 405) (by decide +kernel), List.mem_of_getElem? (i := 406) (by decide +kernel)⟩
theorem lw_p6 : lw_okq (⟨"FormatDump$Directive", "readWidth", "(LFormatDump$Row;)V"⟩, 12) := ⟨⟨by decide +kernel, by decide +kernel⟩, List.mem_of_getElem? (i := 145) (by decide +kernel), List.mem_of_getElem? (i := 409) (by decide +kernel), List.mem_of_getElem? (i := 410) (by decide +kernel)⟩
theorem lw_p7 : lw_okq (⟨"FormatDump$Directive", "readTwoDigits", "(LFormatDump$Row;)I"⟩, 12) := ⟨⟨by decide +kernel, by decide +kernel⟩, List.mem_of_getElem? (i := 145) (by decide +kernel), List.mem_of_getElem? (i := 413) (by decide +kernel), List.mem_of_getElem? (i := 414) (by decide +kernel)⟩
theorem lw_p8 : lw_okq (⟨"FormatDump$Directive", "readPrecision", "(LFormatDump$Row;)V"⟩, 12) := ⟨⟨by decide +kernel, by decide +kernel⟩, List.mem_of_getElem? (i := 145) (by decide +kernel), List.mem_of_getElem? (i := 418) (by decide +kernel), List.mem_of_getElem? (i := 419) (by decide +kernel)⟩
theorem lw_p9 : lw_okq (⟨"FormatDump$Directive", "readLength", "(LFormatDump$Row;)V"⟩, 12) := ⟨⟨by decide +kernel, by decide +kernel⟩, List.mem_of_getElem? (i := 145) (by decide +kernel), List.mem_of_getElem? (i := 422) (by decide +kernel), List.mem_of_getElem? (i := 423) (by decide +kernel)⟩
theorem lw_p10 : lw_okq (⟨"FormatDump$Directive", "isLetter", "()Z"⟩, 12) := ⟨⟨by decide +kernel, by decide +kernel⟩, List.mem_of_getElem? (i := 145) (by decide +kernel), List.mem_of_getElem? (i := 426) (by decide +kernel), List.mem_of_getElem? (i := 427) (by decide +kernel)⟩
theorem lw_p11 : lw_okq (⟨"FormatDump$Printer", "printDirective", "()V"⟩, 8) := ⟨⟨by decide +kernel, by decide +kernel⟩, List.mem_of_getElem? (i := 126) (by decide +kernel), List.mem_of_getElem? (i := 455) (by decide +kernel), List.mem_of_getElem? (i := 456) (by decide +kernel)⟩
theorem lw_p12 : lw_okq (⟨"FormatDump$NumberReading", "readCharacter", "(LFormatDump$Row;)V"⟩, 2) := ⟨⟨by decide +kernel, by decide +kernel⟩, List.mem_of_getElem? (i := 97) (by decide +kernel), List.mem_of_getElem? (i := 472) (by decide +kernel), List.mem_of_getElem? (i := 473) (by decide +kernel)⟩
theorem lw_p13 : lw_okq (⟨"FormatDump$NumberReading", "readDigits", "(LFormatDump$Row;II)V"⟩, 2) := ⟨⟨by decide +kernel, by decide +kernel⟩, List.mem_of_getElem? (i := 97) (by decide +kernel), List.mem_of_getElem? (i := 477) (by decide +kernel), List.mem_of_getElem? (i := 478) (by decide +kernel)⟩
theorem lw_p14 : lw_okq (⟨"FormatDump$Printer", "loadCharacter", "(LFormatDump$Argument;)V"⟩, 8) := ⟨⟨by decide +kernel, by decide +kernel⟩, List.mem_of_getElem? (i := 126) (by decide +kernel), List.mem_of_getElem? (i := 513) (by decide +kernel), List.mem_of_getElem? (i := 514) (by decide +kernel)⟩
theorem lw_p15 : lw_okq (⟨"FormatDump$Printer", "printFilled", "()V"⟩, 8) := ⟨⟨by decide +kernel, by decide +kernel⟩, List.mem_of_getElem? (i := 126) (by decide +kernel), List.mem_of_getElem? (i := 517) (by decide +kernel), List.mem_of_getElem? (i := 518) (by decide +kernel)⟩
def lw_privs_1 : List (MethodName × Nat) := [(⟨"FormatDump$Directive", "forget", "()V"⟩, 12), (⟨"FormatDump$Printer", "readPiece", "(LFormatDump$Row;I)I"⟩, 8), (⟨"FormatDump$Escape", "readLetter", "(LFormatDump$Row;I)Z"⟩, 2), (⟨"FormatDump$Escape", "readOctal", "(LFormatDump$Row;I)V"⟩, 2), (⟨"FormatDump$Directive", "readFlags", "(LFormatDump$Row;)V"⟩, 12), (⟨"FormatDump$Directive", "noteFlag", "(I)Z"⟩, 12), (⟨"FormatDump$Directive", "readWidth", "(LFormatDump$Row;)V"⟩, 12), (⟨"FormatDump$Directive", "readTwoDigits", "(LFormatDump$Row;)I"⟩, 12), (⟨"FormatDump$Directive", "readPrecision", "(LFormatDump$Row;)V"⟩, 12), (⟨"FormatDump$Directive", "readLength", "(LFormatDump$Row;)V"⟩, 12), (⟨"FormatDump$Directive", "isLetter", "()Z"⟩, 12), (⟨"FormatDump$Printer", "printDirective", "()V"⟩, 8), (⟨"FormatDump$NumberReading", "readCharacter", "(LFormatDump$Row;)V"⟩, 2), (⟨"FormatDump$NumberReading", "readDigits", "(LFormatDump$Row;II)V"⟩, 2), (⟨"FormatDump$Printer", "loadCharacter", "(LFormatDump$Argument;)V"⟩, 8), (⟨"FormatDump$Printer", "printFilled", "()V"⟩, 8)]
theorem lw_r1 : ∀ q ∈ lw_privs_1, lw_okq q := List.forall_mem_cons.mpr ⟨lw_p0, List.forall_mem_cons.mpr ⟨lw_p1, List.forall_mem_cons.mpr ⟨lw_p2, List.forall_mem_cons.mpr ⟨lw_p3, List.forall_mem_cons.mpr ⟨lw_p4, List.forall_mem_cons.mpr ⟨lw_p5, List.forall_mem_cons.mpr ⟨lw_p6, List.forall_mem_cons.mpr ⟨lw_p7, List.forall_mem_cons.mpr ⟨lw_p8, List.forall_mem_cons.mpr ⟨lw_p9, List.forall_mem_cons.mpr ⟨lw_p10, List.forall_mem_cons.mpr ⟨lw_p11, List.forall_mem_cons.mpr ⟨lw_p12, List.forall_mem_cons.mpr ⟨lw_p13, List.forall_mem_cons.mpr ⟨lw_p14, List.forall_mem_cons.mpr ⟨lw_p15, fun _ h => absurd h List.not_mem_nil⟩⟩⟩⟩⟩⟩⟩⟩⟩⟩⟩⟩⟩⟩⟩⟩
theorem lw_p16 : lw_okq (⟨"FormatDump$Printer", "loadText", "(LFormatDump$Argument;)V"⟩, 8) := ⟨⟨by decide +kernel, by decide +kernel⟩, List.mem_of_getElem? (i := 126) (by decide +kernel), List.mem_of_getElem? (i := 526) (by decide +kernel), List.mem_of_getElem? (i := 527) (by decide +kernel)⟩
theorem lw_p17 : lw_okq (⟨"FormatDump$Printer", "loadNumber", "(J)V"⟩, 8) := ⟨⟨by decide +kernel, by decide +kernel⟩, List.mem_of_getElem? (i := 126) (by decide +kernel), List.mem_of_getElem? (i := 537) (by decide +kernel), List.mem_of_getElem? (i := 538) (by decide +kernel)⟩
theorem lw_p18 : lw_okq (⟨"FormatDump$Figures", "characterOf", "(I)I"⟩, 3) := ⟨⟨by decide +kernel, by decide +kernel⟩, List.mem_of_getElem? (i := 30) (by decide +kernel), List.mem_of_getElem? (i := 552) (by decide +kernel), List.mem_of_getElem? (i := 553) (by decide +kernel)⟩
theorem lw_p19 : lw_okq (⟨"FormatDump$Printer", "keepPrecision", "()V"⟩, 8) := ⟨⟨by decide +kernel, by decide +kernel⟩, List.mem_of_getElem? (i := 126) (by decide +kernel), List.mem_of_getElem? (i := 557) (by decide +kernel), List.mem_of_getElem? (i := 558) (by decide +kernel)⟩
theorem lw_p20 : lw_okq (⟨"FormatDump$Printer", "unescapePiece", "()V"⟩, 8) := ⟨⟨by decide +kernel, by decide +kernel⟩, List.mem_of_getElem? (i := 126) (by decide +kernel), List.mem_of_getElem? (i := 569) (by decide +kernel), List.mem_of_getElem? (i := 570) (by decide +kernel)⟩
theorem lw_p21 : lw_okq (⟨"FormatDump$Printer", "printNumber", "(J)V"⟩, 8) := ⟨⟨by decide +kernel, by decide +kernel⟩, List.mem_of_getElem? (i := 126) (by decide +kernel), List.mem_of_getElem? (i := 577) (by decide +kernel), List.mem_of_getElem? (i := 578) (by decide +kernel)⟩
theorem lw_p22 : lw_okq (⟨"FormatDump$Printer", "narrowed", "(J)J"⟩, 8) := ⟨⟨by decide +kernel, by decide +kernel⟩, List.mem_of_getElem? (i := 126) (by decide +kernel), List.mem_of_getElem? (i := 581) (by decide +kernel), List.mem_of_getElem? (i := 582) (by decide +kernel)⟩
theorem lw_p23 : lw_okq (⟨"FormatDump$Printer", "digitsDue", "()I"⟩, 8) := ⟨⟨by decide +kernel, by decide +kernel⟩, List.mem_of_getElem? (i := 126) (by decide +kernel), List.mem_of_getElem? (i := 597) (by decide +kernel), List.mem_of_getElem? (i := 598) (by decide +kernel)⟩
theorem lw_p24 : lw_okq (⟨"FormatDump$Printer", "signOf", "(Z)I"⟩, 8) := ⟨⟨by decide +kernel, by decide +kernel⟩, List.mem_of_getElem? (i := 126) (by decide +kernel), List.mem_of_getElem? (i := 607) (by decide +kernel), List.mem_of_getElem? (i := 608) (by decide +kernel)⟩
theorem lw_p25 : lw_okq (⟨"FormatDump", "answerOfPage", "()I"⟩, 10) := ⟨⟨by decide +kernel, by decide +kernel⟩, List.mem_of_getElem? (i := 22) (by decide +kernel), List.mem_of_getElem? (i := 619) (by decide +kernel), List.mem_of_getElem? (i := 620) (by decide +kernel)⟩
theorem lw_p26 : lw_okq (⟨"java/lang/Throwable", "fillInStackTrace", "(I)Ljava/lang/Throwable;"⟩, 6) := ⟨⟨by decide +kernel, by decide +kernel⟩, List.mem_of_getElem? (i := 700) (by decide +kernel), List.mem_of_getElem? (i := 698) (by decide +kernel), List.mem_of_getElem? (i := 699) (by decide +kernel)⟩
theorem lw_p27 : lw_okq (⟨"FormatDump", "typeWord", "(I)V"⟩, 10) := ⟨⟨by decide +kernel, by decide +kernel⟩, List.mem_of_getElem? (i := 22) (by decide +kernel), List.mem_of_getElem? (i := 725) (by decide +kernel), List.mem_of_getElem? (i := 726) (by decide +kernel)⟩
theorem lw_p28 : lw_okq (⟨"FormatDump", "feedWord", "(II)V"⟩, 10) := ⟨⟨by decide +kernel, by decide +kernel⟩, List.mem_of_getElem? (i := 22) (by decide +kernel), List.mem_of_getElem? (i := 787) (by decide +kernel), List.mem_of_getElem? (i := 788) (by decide +kernel)⟩
theorem lw_p29 : lw_okq (⟨"FormatDump$WordDump", "isLikeBefore", "(I)Z"⟩, 7) := ⟨⟨by decide +kernel, by decide +kernel⟩, List.mem_of_getElem? (i := 230) (by decide +kernel), List.mem_of_getElem? (i := 817) (by decide +kernel), List.mem_of_getElem? (i := 818) (by decide +kernel)⟩
theorem lw_p30 : lw_okq (⟨"FormatDump$WordDump", "writeLine", "(I)V"⟩, 7) := ⟨⟨by decide +kernel, by decide +kernel⟩, List.mem_of_getElem? (i := 230) (by decide +kernel), List.mem_of_getElem? (i := 822) (by decide +kernel), List.mem_of_getElem? (i := 823) (by decide +kernel)⟩
theorem lw_p31 : lw_okq (⟨"FormatDump$WordDump", "writeAddress", "(I)V"⟩, 7) := ⟨⟨by decide +kernel, by decide +kernel⟩, List.mem_of_getElem? (i := 230) (by decide +kernel), List.mem_of_getElem? (i := 828) (by decide +kernel), List.mem_of_getElem? (i := 829) (by decide +kernel)⟩
def lw_privs_2 : List (MethodName × Nat) := [(⟨"FormatDump$Printer", "loadText", "(LFormatDump$Argument;)V"⟩, 8), (⟨"FormatDump$Printer", "loadNumber", "(J)V"⟩, 8), (⟨"FormatDump$Figures", "characterOf", "(I)I"⟩, 3), (⟨"FormatDump$Printer", "keepPrecision", "()V"⟩, 8), (⟨"FormatDump$Printer", "unescapePiece", "()V"⟩, 8), (⟨"FormatDump$Printer", "printNumber", "(J)V"⟩, 8), (⟨"FormatDump$Printer", "narrowed", "(J)J"⟩, 8), (⟨"FormatDump$Printer", "digitsDue", "()I"⟩, 8), (⟨"FormatDump$Printer", "signOf", "(Z)I"⟩, 8), (⟨"FormatDump", "answerOfPage", "()I"⟩, 10), (⟨"java/lang/Throwable", "fillInStackTrace", "(I)Ljava/lang/Throwable;"⟩, 6), (⟨"FormatDump", "typeWord", "(I)V"⟩, 10), (⟨"FormatDump", "feedWord", "(II)V"⟩, 10), (⟨"FormatDump$WordDump", "isLikeBefore", "(I)Z"⟩, 7), (⟨"FormatDump$WordDump", "writeLine", "(I)V"⟩, 7), (⟨"FormatDump$WordDump", "writeAddress", "(I)V"⟩, 7)]
theorem lw_r2 : ∀ q ∈ lw_privs_2, lw_okq q := List.forall_mem_cons.mpr ⟨lw_p16, List.forall_mem_cons.mpr ⟨lw_p17, List.forall_mem_cons.mpr ⟨lw_p18, List.forall_mem_cons.mpr ⟨lw_p19, List.forall_mem_cons.mpr ⟨lw_p20, List.forall_mem_cons.mpr ⟨lw_p21, List.forall_mem_cons.mpr ⟨lw_p22, List.forall_mem_cons.mpr ⟨lw_p23, List.forall_mem_cons.mpr ⟨lw_p24, List.forall_mem_cons.mpr ⟨lw_p25, List.forall_mem_cons.mpr ⟨lw_p26, List.forall_mem_cons.mpr ⟨lw_p27, List.forall_mem_cons.mpr ⟨lw_p28, List.forall_mem_cons.mpr ⟨lw_p29, List.forall_mem_cons.mpr ⟨lw_p30, List.forall_mem_cons.mpr ⟨lw_p31, fun _ h => absurd h List.not_mem_nil⟩⟩⟩⟩⟩⟩⟩⟩⟩⟩⟩⟩⟩⟩⟩⟩
theorem lw_p32 : lw_okq (⟨"FormatDump$WordDump", "wordAt", "(I)J"⟩, 7) := ⟨⟨by decide +kernel, by decide +kernel⟩, List.mem_of_getElem? (i := 230) (by decide +kernel), List.mem_of_getElem? (i := 835) (by decide +kernel), List.mem_of_getElem? (i := 836) (by decide +kernel)⟩
theorem lw_p33 : lw_okq (⟨"FormatDump$WordDump", "writeField", "(J)V"⟩, 7) := ⟨⟨by decide +kernel, by decide +kernel⟩, List.mem_of_getElem? (i := 230) (by decide +kernel), List.mem_of_getElem? (i := 839) (by decide +kernel), List.mem_of_getElem? (i := 840) (by decide +kernel)⟩
theorem lw_p34 : lw_okq (⟨"FormatDump$WordDump", "loadCharacter", "(I)V"⟩, 7) := ⟨⟨by decide +kernel, by decide +kernel⟩, List.mem_of_getElem? (i := 230) (by decide +kernel), List.mem_of_getElem? (i := 844) (by decide +kernel), List.mem_of_getElem? (i := 845) (by decide +kernel)⟩
theorem lw_p35 : lw_okq (⟨"FormatDump$WordDump", "loadNumber", "(J)V"⟩, 7) := ⟨⟨by decide +kernel, by decide +kernel⟩, List.mem_of_getElem? (i := 230) (by decide +kernel), List.mem_of_getElem? (i := 854) (by decide +kernel), List.mem_of_getElem? (i := 855) (by decide +kernel)⟩
theorem lw_p36 : lw_okq (⟨"FormatDump$WordDump", "fieldBase", "()I"⟩, 7) := ⟨⟨by decide +kernel, by decide +kernel⟩, List.mem_of_getElem? (i := 230) (by decide +kernel), List.mem_of_getElem? (i := 858) (by decide +kernel), List.mem_of_getElem? (i := 859) (by decide +kernel)⟩
theorem lw_p37 : lw_okq (⟨"FormatDump$WordDump", "leastDigits", "()I"⟩, 7) := ⟨⟨by decide +kernel, by decide +kernel⟩, List.mem_of_getElem? (i := 230) (by decide +kernel), List.mem_of_getElem? (i := 862) (by decide +kernel), List.mem_of_getElem? (i := 863) (by decide +kernel)⟩
theorem lw_p38 : lw_okq (⟨"FormatDump$WordDump", "fieldWidth", "()I"⟩, 7) := ⟨⟨by decide +kernel, by decide +kernel⟩, List.mem_of_getElem? (i := 230) (by decide +kernel), List.mem_of_getElem? (i := 866) (by decide +kernel), List.mem_of_getElem? (i := 867) (by decide +kernel)⟩
theorem lw_p39 : lw_okq (⟨"FormatDump$WordDump", "decimalWidth", "()I"⟩, 7) := ⟨⟨by decide +kernel, by decide +kernel⟩, List.mem_of_getElem? (i := 230) (by decide +kernel), List.mem_of_getElem? (i := 870) (by decide +kernel), List.mem_of_getElem? (i := 871) (by decide +kernel)⟩
theorem lw_p40 : lw_okq (⟨"FormatDump$PairDump", "writeDigits", "(IIZ)V"⟩, 3) := ⟨⟨by decide +kernel, by decide +kernel⟩, List.mem_of_getElem? (i := 260) (by decide +kernel), List.mem_of_getElem? (i := 901) (by decide +kernel), List.mem_of_getElem? (i := 902) (by decide +kernel)⟩
theorem lw_p41 : lw_okq (⟨"FormatDump$PairReader", "readLine", "(III)Z"⟩, 5) := ⟨⟨by decide +kernel, by decide +kernel⟩, List.mem_of_getElem? (i := 276) (by decide +kernel), List.mem_of_getElem? (i := 929) (by decide +kernel), List.mem_of_getElem? (i := 930) (by decide +kernel)⟩
theorem lw_p42 : lw_okq (⟨"FormatDump$PairReader", "readAddress", "()Z"⟩, 5) := ⟨⟨by decide +kernel, by decide +kernel⟩, List.mem_of_getElem? (i := 276) (by decide +kernel), List.mem_of_getElem? (i := 933) (by decide +kernel), List.mem_of_getElem? (i := 934) (by decide +kernel)⟩
theorem lw_p43 : lw_okq (⟨"FormatDump$PairReader", "readOne", "(I)Z"⟩, 5) := ⟨⟨by decide +kernel, by decide +kernel⟩, List.mem_of_getElem? (i := 276) (by decide +kernel), List.mem_of_getElem? (i := 939) (by decide +kernel), List.mem_of_getElem? (i := 940) (by decide +kernel)⟩
theorem lw_p44 : lw_okq (⟨"FormatDump$PairReader", "readPairs", "(II)Z"⟩, 5) := ⟨⟨by decide +kernel, by decide +kernel⟩, List.mem_of_getElem? (i := 276) (by decide +kernel), List.mem_of_getElem? (i := 943) (by decide +kernel), List.mem_of_getElem? (i := 944) (by decide +kernel)⟩
theorem lw_p45 : lw_okq (⟨"FormatDump$PairReader", "readPair", "()Z"⟩, 5) := ⟨⟨by decide +kernel, by decide +kernel⟩, List.mem_of_getElem? (i := 276) (by decide +kernel), List.mem_of_getElem? (i := 947) (by decide +kernel), List.mem_of_getElem? (i := 948) (by decide +kernel)⟩
theorem lw_p46 : lw_okq (⟨"FormatDump$PairReader", "readBlanks", "(I)Z"⟩, 5) := ⟨⟨by decide +kernel, by decide +kernel⟩, List.mem_of_getElem? (i := 276) (by decide +kernel), List.mem_of_getElem? (i := 953) (by decide +kernel), List.mem_of_getElem? (i := 954) (by decide +kernel)⟩
theorem lw_p47 : lw_okq (⟨"FormatDump$PairReader", "readSeen", "()Z"⟩, 5) := ⟨⟨by decide +kernel, by decide +kernel⟩, List.mem_of_getElem? (i := 276) (by decide +kernel), List.mem_of_getElem? (i := 957) (by decide +kernel), List.mem_of_getElem? (i := 958) (by decide +kernel)⟩
def lw_privs_3 : List (MethodName × Nat) := [(⟨"FormatDump$WordDump", "wordAt", "(I)J"⟩, 7), (⟨"FormatDump$WordDump", "writeField", "(J)V"⟩, 7), (⟨"FormatDump$WordDump", "loadCharacter", "(I)V"⟩, 7), (⟨"FormatDump$WordDump", "loadNumber", "(J)V"⟩, 7), (⟨"FormatDump$WordDump", "fieldBase", "()I"⟩, 7), (⟨"FormatDump$WordDump", "leastDigits", "()I"⟩, 7), (⟨"FormatDump$WordDump", "fieldWidth", "()I"⟩, 7), (⟨"FormatDump$WordDump", "decimalWidth", "()I"⟩, 7), (⟨"FormatDump$PairDump", "writeDigits", "(IIZ)V"⟩, 3), (⟨"FormatDump$PairReader", "readLine", "(III)Z"⟩, 5), (⟨"FormatDump$PairReader", "readAddress", "()Z"⟩, 5), (⟨"FormatDump$PairReader", "readOne", "(I)Z"⟩, 5), (⟨"FormatDump$PairReader", "readPairs", "(II)Z"⟩, 5), (⟨"FormatDump$PairReader", "readPair", "()Z"⟩, 5), (⟨"FormatDump$PairReader", "readBlanks", "(I)Z"⟩, 5), (⟨"FormatDump$PairReader", "readSeen", "()Z"⟩, 5)]
theorem lw_r3 : ∀ q ∈ lw_privs_3, lw_okq q := List.forall_mem_cons.mpr ⟨lw_p32, List.forall_mem_cons.mpr ⟨lw_p33, List.forall_mem_cons.mpr ⟨lw_p34, List.forall_mem_cons.mpr ⟨lw_p35, List.forall_mem_cons.mpr ⟨lw_p36, List.forall_mem_cons.mpr ⟨lw_p37, List.forall_mem_cons.mpr ⟨lw_p38, List.forall_mem_cons.mpr ⟨lw_p39, List.forall_mem_cons.mpr ⟨lw_p40, List.forall_mem_cons.mpr ⟨lw_p41, List.forall_mem_cons.mpr ⟨lw_p42, List.forall_mem_cons.mpr ⟨lw_p43, List.forall_mem_cons.mpr ⟨lw_p44, List.forall_mem_cons.mpr ⟨lw_p45, List.forall_mem_cons.mpr ⟨lw_p46, List.forall_mem_cons.mpr ⟨lw_p47, fun _ h => absurd h List.not_mem_nil⟩⟩⟩⟩⟩⟩⟩⟩⟩⟩⟩⟩⟩⟩⟩⟩
theorem lw_p48 : lw_okq (⟨"FormatDumpModel", "typed", "(II)I"⟩, 36) := ⟨⟨by decide +kernel, by decide +kernel⟩, List.mem_of_getElem? (i := 1005) (by decide +kernel), List.mem_of_getElem? (i := 1131) (by decide +kernel), List.mem_of_getElem? (i := 1132) (by decide +kernel)⟩
theorem lw_p49 : lw_okq (⟨"FormatDumpModel", "refused", "(I)Z"⟩, 36) := ⟨⟨by decide +kernel, by decide +kernel⟩, List.mem_of_getElem? (i := 1005) (by decide +kernel), List.mem_of_getElem? (i := 1135) (by decide +kernel), List.mem_of_getElem? (i := 1136) (by decide +kernel)⟩
theorem lw_p50 : lw_okq (⟨"FormatDumpModel", "badAt", "()I"⟩, 36) := ⟨⟨by decide +kernel, by decide +kernel⟩, List.mem_of_getElem? (i := 1005) (by decide +kernel), List.mem_of_getElem? (i := 1166) (by decide +kernel), List.mem_of_getElem? (i := 1167) (by decide +kernel)⟩
theorem lw_p51 : lw_okq (⟨"FormatDumpModel", "readEscape", "()I"⟩, 36) := ⟨⟨by decide +kernel, by decide +kernel⟩, List.mem_of_getElem? (i := 1005) (by decide +kernel), List.mem_of_getElem? (i := 1170) (by decide +kernel), List.mem_of_getElem? (i := 1171) (by decide +kernel)⟩
theorem lw_p52 : lw_okq (⟨"FormatDumpModel", "charAt", "(I)C"⟩, 36) := ⟨⟨by decide +kernel, by decide +kernel⟩, List.mem_of_getElem? (i := 1005) (by decide +kernel), List.mem_of_getElem? (i := 1174) (by decide +kernel), List.mem_of_getElem? (i := 1175) (by decide +kernel)⟩
theorem lw_p53 : lw_okq (⟨"FormatDumpModel", "readDirective", "()Z"⟩, 36) := ⟨⟨by decide +kernel, by decide +kernel⟩, List.mem_of_getElem? (i := 1005) (by decide +kernel), List.mem_of_getElem? (i := 1184) (by decide +kernel), List.mem_of_getElem? (i := 1185) (by decide +kernel)⟩
theorem lw_p54 : lw_okq (⟨"FormatDumpModel", "readTwo", "()I"⟩, 36) := ⟨⟨by decide +kernel, by decide +kernel⟩, List.mem_of_getElem? (i := 1005) (by decide +kernel), List.mem_of_getElem? (i := 1188) (by decide +kernel), List.mem_of_getElem? (i := 1189) (by decide +kernel)⟩
theorem lw_p55 : lw_okq (⟨"FormatDumpModel", "begin", "()V"⟩, 36) := ⟨⟨by decide +kernel, by decide +kernel⟩, List.mem_of_getElem? (i := 1005) (by decide +kernel), List.mem_of_getElem? (i := 1192) (by decide +kernel), List.mem_of_getElem? (i := 1193) (by decide +kernel)⟩
theorem lw_p56 : lw_okq (⟨"FormatDumpModel", "printOnce", "()V"⟩, 36) := ⟨⟨by decide +kernel, by decide +kernel⟩, List.mem_of_getElem? (i := 1005) (by decide +kernel), List.mem_of_getElem? (i := 1196) (by decide +kernel), List.mem_of_getElem? (i := 1197) (by decide +kernel)⟩
theorem lw_p57 : lw_okq (⟨"FormatDumpModel", "put", "(I)V"⟩, 36) := ⟨⟨by decide +kernel, by decide +kernel⟩, List.mem_of_getElem? (i := 1005) (by decide +kernel), List.mem_of_getElem? (i := 1200) (by decide +kernel), List.mem_of_getElem? (i := 1201) (by decide +kernel)⟩
theorem lw_p58 : lw_okq (⟨"FormatDumpModel", "printDirective", "()V"⟩, 36) := ⟨⟨by decide +kernel, by decide +kernel⟩, List.mem_of_getElem? (i := 1005) (by decide +kernel), List.mem_of_getElem? (i := 1204) (by decide +kernel), List.mem_of_getElem? (i := 1205) (by decide +kernel)⟩
theorem lw_p59 : lw_okq (⟨"FormatDumpModel", "takeNumber", "()J"⟩, 36) := ⟨⟨by decide +kernel, by decide +kernel⟩, List.mem_of_getElem? (i := 1005) (by decide +kernel), List.mem_of_getElem? (i := 1208) (by decide +kernel), List.mem_of_getElem? (i := 1209) (by decide +kernel)⟩
theorem lw_p60 : lw_okq (⟨"FormatDumpModel", "textNumber", "(I)J"⟩, 36) := ⟨⟨by decide +kernel, by decide +kernel⟩, List.mem_of_getElem? (i := 1005) (by decide +kernel), List.mem_of_getElem? (i := 1212) (by decide +kernel), List.mem_of_getElem? (i := 1213) (by decide +kernel)⟩
theorem lw_p61 : lw_okq (⟨"FormatDumpModel", "textAt", "(II)C"⟩, 36) := ⟨⟨by decide +kernel, by decide +kernel⟩, List.mem_of_getElem? (i := 1005) (by decide +kernel), List.mem_of_getElem? (i := 1216) (by decide +kernel), List.mem_of_getElem? (i := 1217) (by decide +kernel)⟩
theorem lw_p62 : lw_okq (⟨"FormatDumpModel", "takeText", "()V"⟩, 36) := ⟨⟨by decide +kernel, by decide +kernel⟩, List.mem_of_getElem? (i := 1005) (by decide +kernel), List.mem_of_getElem? (i := 1228) (by decide +kernel), List.mem_of_getElem? (i := 1229) (by decide +kernel)⟩
theorem lw_p63 : lw_okq (⟨"FormatDumpModel", "reckon", "(JIZ)V"⟩, 36) := ⟨⟨by decide +kernel, by decide +kernel⟩, List.mem_of_getElem? (i := 1005) (by decide +kernel), List.mem_of_getElem? (i := 1232) (by decide +kernel), List.mem_of_getElem? (i := 1233) (by decide +kernel)⟩
def lw_privs_4 : List (MethodName × Nat) := [(⟨"FormatDumpModel", "typed", "(II)I"⟩, 36), (⟨"FormatDumpModel", "refused", "(I)Z"⟩, 36), (⟨"FormatDumpModel", "badAt", "()I"⟩, 36), (⟨"FormatDumpModel", "readEscape", "()I"⟩, 36), (⟨"FormatDumpModel", "charAt", "(I)C"⟩, 36), (⟨"FormatDumpModel", "readDirective", "()Z"⟩, 36), (⟨"FormatDumpModel", "readTwo", "()I"⟩, 36), (⟨"FormatDumpModel", "begin", "()V"⟩, 36), (⟨"FormatDumpModel", "printOnce", "()V"⟩, 36), (⟨"FormatDumpModel", "put", "(I)V"⟩, 36), (⟨"FormatDumpModel", "printDirective", "()V"⟩, 36), (⟨"FormatDumpModel", "takeNumber", "()J"⟩, 36), (⟨"FormatDumpModel", "textNumber", "(I)J"⟩, 36), (⟨"FormatDumpModel", "textAt", "(II)C"⟩, 36), (⟨"FormatDumpModel", "takeText", "()V"⟩, 36), (⟨"FormatDumpModel", "reckon", "(JIZ)V"⟩, 36)]
theorem lw_r4 : ∀ q ∈ lw_privs_4, lw_okq q := List.forall_mem_cons.mpr ⟨lw_p48, List.forall_mem_cons.mpr ⟨lw_p49, List.forall_mem_cons.mpr ⟨lw_p50, List.forall_mem_cons.mpr ⟨lw_p51, List.forall_mem_cons.mpr ⟨lw_p52, List.forall_mem_cons.mpr ⟨lw_p53, List.forall_mem_cons.mpr ⟨lw_p54, List.forall_mem_cons.mpr ⟨lw_p55, List.forall_mem_cons.mpr ⟨lw_p56, List.forall_mem_cons.mpr ⟨lw_p57, List.forall_mem_cons.mpr ⟨lw_p58, List.forall_mem_cons.mpr ⟨lw_p59, List.forall_mem_cons.mpr ⟨lw_p60, List.forall_mem_cons.mpr ⟨lw_p61, List.forall_mem_cons.mpr ⟨lw_p62, List.forall_mem_cons.mpr ⟨lw_p63, fun _ h => absurd h List.not_mem_nil⟩⟩⟩⟩⟩⟩⟩⟩⟩⟩⟩⟩⟩⟩⟩⟩
theorem lw_p64 : lw_okq (⟨"FormatDumpModel", "fill", "(I)V"⟩, 36) := ⟨⟨by decide +kernel, by decide +kernel⟩, List.mem_of_getElem? (i := 1005) (by decide +kernel), List.mem_of_getElem? (i := 1240) (by decide +kernel), List.mem_of_getElem? (i := 1241) (by decide +kernel)⟩
theorem lw_p65 : lw_okq (⟨"FormatDumpModel", "noArgument", "()I"⟩, 36) := ⟨⟨by decide +kernel, by decide +kernel⟩, List.mem_of_getElem? (i := 1005) (by decide +kernel), List.mem_of_getElem? (i := 1245) (by decide +kernel), List.mem_of_getElem? (i := 1246) (by decide +kernel)⟩
theorem lw_p66 : lw_okq (⟨"FormatDumpModel", "printRow", "()V"⟩, 36) := ⟨⟨by decide +kernel, by decide +kernel⟩, List.mem_of_getElem? (i := 1005) (by decide +kernel), List.mem_of_getElem? (i := 1249) (by decide +kernel), List.mem_of_getElem? (i := 1250) (by decide +kernel)⟩
theorem lw_p67 : lw_okq (⟨"FormatDumpModel", "putMany", "(II)V"⟩, 36) := ⟨⟨by decide +kernel, by decide +kernel⟩, List.mem_of_getElem? (i := 1005) (by decide +kernel), List.mem_of_getElem? (i := 1253) (by decide +kernel), List.mem_of_getElem? (i := 1254) (by decide +kernel)⟩
theorem lw_p68 : lw_okq (⟨"FormatDumpModel", "undo", "()V"⟩, 36) := ⟨⟨by decide +kernel, by decide +kernel⟩, List.mem_of_getElem? (i := 1005) (by decide +kernel), List.mem_of_getElem? (i := 1257) (by decide +kernel), List.mem_of_getElem? (i := 1258) (by decide +kernel)⟩
theorem lw_p69 : lw_okq (⟨"FormatDumpModel", "printWhole", "()V"⟩, 36) := ⟨⟨by decide +kernel, by decide +kernel⟩, List.mem_of_getElem? (i := 1005) (by decide +kernel), List.mem_of_getElem? (i := 1261) (by decide +kernel), List.mem_of_getElem? (i := 1262) (by decide +kernel)⟩
theorem lw_p70 : lw_okq (⟨"FormatDumpModel", "putDigits", "()V"⟩, 36) := ⟨⟨by decide +kernel, by decide +kernel⟩, List.mem_of_getElem? (i := 1005) (by decide +kernel), List.mem_of_getElem? (i := 1265) (by decide +kernel), List.mem_of_getElem? (i := 1266) (by decide +kernel)⟩
theorem lw_p71 : lw_okq (⟨"FormatDumpModel", "end", "()I"⟩, 36) := ⟨⟨by decide +kernel, by decide +kernel⟩, List.mem_of_getElem? (i := 1005) (by decide +kernel), List.mem_of_getElem? (i := 1269) (by decide +kernel), List.mem_of_getElem? (i := 1270) (by decide +kernel)⟩
theorem lw_p72 : lw_okq (⟨"FormatDumpModel", "isLikeBefore", "(I)Z"⟩, 36) := ⟨⟨by decide +kernel, by decide +kernel⟩, List.mem_of_getElem? (i := 1005) (by decide +kernel), List.mem_of_getElem? (i := 1289) (by decide +kernel), List.mem_of_getElem? (i := 1290) (by decide +kernel)⟩
theorem lw_p73 : lw_okq (⟨"FormatDumpModel", "putAddress", "(IIZ)V"⟩, 36) := ⟨⟨by decide +kernel, by decide +kernel⟩, List.mem_of_getElem? (i := 1005) (by decide +kernel), List.mem_of_getElem? (i := 1293) (by decide +kernel), List.mem_of_getElem? (i := 1294) (by decide +kernel)⟩
theorem lw_p74 : lw_okq (⟨"FormatDumpModel", "putField", "(ICI)V"⟩, 36) := ⟨⟨by decide +kernel, by decide +kernel⟩, List.mem_of_getElem? (i := 1005) (by decide +kernel), List.mem_of_getElem? (i := 1297) (by decide +kernel), List.mem_of_getElem? (i := 1298) (by decide +kernel)⟩
theorem lw_p75 : lw_okq (⟨"FormatDumpModel", "putShown", "(I)V"⟩, 36) := ⟨⟨by decide +kernel, by decide +kernel⟩, List.mem_of_getElem? (i := 1005) (by decide +kernel), List.mem_of_getElem? (i := 1307) (by decide +kernel), List.mem_of_getElem? (i := 1308) (by decide +kernel)⟩
theorem lw_p76 : lw_okq (⟨"FormatDumpModel", "readLine", "(II)Z"⟩, 36) := ⟨⟨by decide +kernel, by decide +kernel⟩, List.mem_of_getElem? (i := 1005) (by decide +kernel), List.mem_of_getElem? (i := 1325) (by decide +kernel), List.mem_of_getElem? (i := 1326) (by decide +kernel)⟩
theorem lw_p77 : lw_okq (⟨"FormatDumpModel", "hexAt", "(I)I"⟩, 36) := ⟨⟨by decide +kernel, by decide +kernel⟩, List.mem_of_getElem? (i := 1005) (by decide +kernel), List.mem_of_getElem? (i := 1329) (by decide +kernel), List.mem_of_getElem? (i := 1330) (by decide +kernel)⟩
theorem lw_p78 : lw_okq (⟨"FormatDumpModel", "isNext", "(I)Z"⟩, 36) := ⟨⟨by decide +kernel, by decide +kernel⟩, List.mem_of_getElem? (i := 1005) (by decide +kernel), List.mem_of_getElem? (i := 1333) (by decide +kernel), List.mem_of_getElem? (i := 1334) (by decide +kernel)⟩
def lw_privs_5 : List (MethodName × Nat) := [(⟨"FormatDumpModel", "fill", "(I)V"⟩, 36), (⟨"FormatDumpModel", "noArgument", "()I"⟩, 36), (⟨"FormatDumpModel", "printRow", "()V"⟩, 36), (⟨"FormatDumpModel", "putMany", "(II)V"⟩, 36), (⟨"FormatDumpModel", "undo", "()V"⟩, 36), (⟨"FormatDumpModel", "printWhole", "()V"⟩, 36), (⟨"FormatDumpModel", "putDigits", "()V"⟩, 36), (⟨"FormatDumpModel", "end", "()I"⟩, 36), (⟨"FormatDumpModel", "isLikeBefore", "(I)Z"⟩, 36), (⟨"FormatDumpModel", "putAddress", "(IIZ)V"⟩, 36), (⟨"FormatDumpModel", "putField", "(ICI)V"⟩, 36), (⟨"FormatDumpModel", "putShown", "(I)V"⟩, 36), (⟨"FormatDumpModel", "readLine", "(II)Z"⟩, 36), (⟨"FormatDumpModel", "hexAt", "(I)I"⟩, 36), (⟨"FormatDumpModel", "isNext", "(I)Z"⟩, 36)]
theorem lw_r5 : ∀ q ∈ lw_privs_5, lw_okq q := List.forall_mem_cons.mpr ⟨lw_p64, List.forall_mem_cons.mpr ⟨lw_p65, List.forall_mem_cons.mpr ⟨lw_p66, List.forall_mem_cons.mpr ⟨lw_p67, List.forall_mem_cons.mpr ⟨lw_p68, List.forall_mem_cons.mpr ⟨lw_p69, List.forall_mem_cons.mpr ⟨lw_p70, List.forall_mem_cons.mpr ⟨lw_p71, List.forall_mem_cons.mpr ⟨lw_p72, List.forall_mem_cons.mpr ⟨lw_p73, List.forall_mem_cons.mpr ⟨lw_p74, List.forall_mem_cons.mpr ⟨lw_p75, List.forall_mem_cons.mpr ⟨lw_p76, List.forall_mem_cons.mpr ⟨lw_p77, List.forall_mem_cons.mpr ⟨lw_p78, fun _ h => absurd h List.not_mem_nil⟩⟩⟩⟩⟩⟩⟩⟩⟩⟩⟩⟩⟩⟩⟩
def lw_privs : List (MethodName × Nat) := lw_privs_1 ++ (lw_privs_2 ++ (lw_privs_3 ++ (lw_privs_4 ++ (lw_privs_5))))
def lw_tbl : List Cond := k2_sels lw_privs ++ tables_1
theorem lw_privs_ok : ∀ q ∈ lw_privs, lw_okq q := by
  show ∀ q ∈ lw_privs_1 ++ (lw_privs_2 ++ (lw_privs_3 ++ (lw_privs_4 ++ (lw_privs_5)))), lw_okq q
  exact List.forall_mem_append.mpr ⟨lw_r1, List.forall_mem_append.mpr ⟨lw_r2, List.forall_mem_append.mpr ⟨lw_r3, List.forall_mem_append.mpr ⟨lw_r4, lw_r5⟩⟩⟩⟩
end
section
/-! ===== BEGIN words of one list among another's, by their places ===== -/
theorem goodIn_r {big : List Cond} (ws : List Cond) (ps : List Nat) (hp : ws = ps.filterMap (fun i => big[i]?)) (h : ws.all goodWord = true) : GoodIn big ws := by
  intro w hw
  have h1 := List.all_eq_true.mp h w hw
  rw [hp] at hw
  obtain ⟨i, -, hi⟩ := List.mem_filterMap.mp hw
  have hm : w ∈ big := by first | exact List.mem_of_getElem? hi | exact List.getElem?_mem hi
  exact ⟨hm, good_of_word h1⟩
theorem goodIn_app {big a b : List Cond} (ha : GoodIn big a) (hb : GoodIn big b) : GoodIn big (a ++ b) := fun w h => (List.mem_append.mp h).elim (ha w) (hb w)
theorem goodIn_ca {big a b : List Cond} {c : Cond} (ha : GoodIn big (c :: a)) (hb : GoodIn big b) : GoodIn big (c :: (a ++ b)) := fun w h => (List.mem_cons.mp h).elim (fun e => ha w (List.mem_cons.mpr (Or.inl e))) (fun h => (List.mem_append.mp h).elim (fun h => ha w (List.mem_cons.mpr (Or.inr h))) (hb w))
theorem goodIn_sub {big ws : List Cond} (hm : ∀ w ∈ ws, w ∈ big) (h : ws.all goodWord = true) : GoodIn big ws := fun w hw => ⟨hm w hw, good_of_word (List.all_eq_true.mp h w hw)⟩
/-! ===== END ===== -/

/-! ===== BEGIN exceptions that leave a method, and their catching by the caller (launches without stack traces) ===== -/
section VXA
/-! The laws vx_back, vx_callV, vx_callS, vx_callSW, vx_throw0, vx_throwS follow proofs of the library, with one case more: JvmDerived/Free/Laws.lean (Back.of_free), Shelf42/LK1.lean (callV, callS), Shelf/KitTraced.lean (throwNew0V, throwNewS). -/
/-- where a method has thrown q: the class by its name, the cell, what was written, the world -/
def vx_T (XC : String → State → State → Prop) (st : State) (q : Addr) (t : State) (mc ms : Nat) (free : Addr → Prop) : Prop :=
  ∃ (E : String) (ce : Cell) (L : List Loc), XC E st t ∧ t.heap[q]? = some ce ∧ ce.vm = .none ∧ st.vm.findClass E = some ce.cls ∧ st.WarmedH t.vm ∧ st.sameButNew ({ t with vm := st.vm } : State) L mc ms ∧ ∀ z ∈ L, free z.base
def vx_Q (Qc : Array Value → State → Outcome → State → Prop) (XC : String → State → State → Prop) (mc ms : Nat) (free : Addr → Prop) : Array Value → State → Outcome → State → Prop := fun a st o t =>
  (Qc a st o t ∧ ∃ L, FrameEnd st o t L mc ms ∧ ∀ q ∈ L, free q.base) ∨ ∃ q, o = .threw q ∧ vx_T XC st q t mc ms free
/-- a callee that returns or throws -/
def vx_Met (l : Launch) (y : MethodName) (ws : List Cond) (rm : Room) (Pc : Array Value → State → Prop) (Qc : Array Value → State → Outcome → State → Prop) (XC : String → State → State → Prop) (mc ms : Nat) (free : Addr → Prop) : Prop :=
  MetFree l y (headSpec ws rm) Pc (fun _ _ _ _ _ => True) (vx_Q Qc XC mc ms free)
def vx_Post (XC : String → State → State → Prop) (mc ms : Nat) (free : Addr → Prop) : Pt → Array Value → Addr → Pt → Prop := fun A a q B =>
  ∃ (g : JFrame) (mk : MethodId) (t : State) (L : List Loc) (E : String) (ce : Cell), B.U.heap = t.heap ∧ B.U.vm = t.vm ∧ XC E (A.U.calling g mk a) t ∧ t.heap[q]? = some ce ∧ ce.vm = .none ∧ A.U.vm.findClass E = some ce.cls ∧ B.locs = A.locs ++ L ∧ (∀ z ∈ L, free z.base) ∧ B.cells = A.cells + mc ∧ B.slots = A.slots + ms
def vx_Back (l : Launch) (R : Room) (p : Program) (e : Env) (below : List Frame) (s : State) (sargs : Array Value) (y : MethodName) (len W9 : Nat)
    (Pre : Pt → Array Value → Prop) (Post : Pt → Array Value → Option Value → Pt → Prop) (PostX : Pt → Array Value → Addr → Pt → Prop) : Prop :=
  ∀ (m : MethodId) (meth : Method) (c : Code) (A : Pt) (g : JFrame) (ig : Instr) (mk : MethodId) (a : Array Value),
    Stand p l e R s m sargs below meth c A.U A.locs A.cells A.slots → g.method = m → g.locals.size = c.maxLocals → decode c.code g.pc = .ok (ig, len) →
    2 * g.monitorRoom + (g.stack.map fun v => v.category).sum ≤ W9 → A.U.methodNamed? y = some mk → Pre A a →
    (∃ (v : Option Value) (B : Pt), Stand p l e R s m sargs below meth c B.U B.locs B.cells B.slots ∧ Post A a v B ∧
      Steps p.tables e below (doInvoke e (A.U.setTop g) [] mk a).1 (B.U.setTop { g with pc := g.pc + len, stack := v.toList ++ g.stack })) ∨
    (∃ (q : Addr) (B : Pt), Stand p l e R s m sargs below meth c B.U B.locs B.cells B.slots ∧ PostX A a q B ∧
      Steps p.tables e below (doInvoke e (A.U.setTop g) [] mk a).1 ((B.U.setTop g).pushFrame (.throwing q)))
section Payer
variable {l : Launch} {R : Room} {p : Program} {e : Env} {below : List Frame} {s : State} {sargs : Array Value} {y : MethodName} {len W9 : Nat}
theorem vx_back {ws : List Cond} {rm : Room} {Pc : Array Value → State → Prop} {Qc : Array Value → State → Outcome → State → Prop} {XC : String → State → State → Prop} {mc ms : Nat} {free : Addr → Prop} {bytes : ByteArray} {maxL : Nat} {ret : Option FieldType}
    (hM : vx_Met l y ws rm Pc Qc XC mc ms free) (hblind : FrameBlind Pc) (hrc : rm.cells = mc) (hrs : rm.slots = ms)
    (hframes : rm.frames + 1 ≤ R.frames) (hlocals : W9 + (maxL + 11) + rm.locals ≤ R.locals)
    (hws : ∀ w ∈ ws, ∀ a' U, s.WarmedH U.vm → w.before a' U = true) (hcode : Cond.code y bytes maxL ret ∈ ws) (hinit : ∀ a' U, s.WarmedH U.vm → (Cond.initialized y.cls).before a' U = true) :
    vx_Back l R p e below s sargs y len W9 (PreOf R mc ms Pc) (PostOf Qc mc ms free) (vx_Post XC mc ms free) := by
  intro m meth c A g ig mk a X hg hsize hdg hW hn hp
  have h1 : (headSpec ws rm).pre.before a A.U = true := atoms_intro fun w hw => hws w hw _ _ X.warmed
  have h2 : (Cond.code y bytes maxL ret).before a A.U = true := hws _ hcode _ _ X.warmed
  have h3 : (Cond.initialized y.cls).before a A.U = true := hinit _ _ X.warmed
  have h4 : A.cells + (headSpec ws rm).room.cells ≤ R.cells := by rw [show (headSpec ws rm).room.cells = mc from hrc]; exact hp.1
  have h5 : A.slots + (headSpec ws rm).room.slots ≤ R.slots := by rw [show (headSpec ws rm).room.slots = ms from hrs]; exact hp.2.1
  have hPc : Pc a (A.U.calling g mk a) := hblind _ _ _ _ hp.2.2
  obtain ⟨U, Ls, c0, s0⟩ := A
  dsimp only [Pt.U, Pt.locs, Pt.cells, Pt.slots] at h1 h2 h3 h4 h5 X hn hPc ⊢
  obtain ⟨methY, cY, hmY, hcY, -, hlY, -, -, -, -⟩ := Cond.code_spec hn h2
  obtain ⟨kY, hkY, -⟩ := className_of_methodNamed hn
  have hinitY : kY.init = .initialized := Cond.initialized_spec (findClass_of_methodNamed hn) hkY h3
  have h : At U g.method c below := by rw [hg]; exact X.here
  have hlocals9 : W9 + (maxL + 11) + (headSpec ws rm).room.locals ≤ R.locals := hlocals
  have happ : (headSpec ws rm).appliesLoose y e.platform (U.calling g mk a) = true :=
    Spec.appliesLoose_calling (g := g) h hdg hn hkY hinitY
      (X.room_calling (g := g) (R' := (headSpec ws rm).room) hsize hmY hcY hframes (by rw [hlY]; omega) h4 h5) h1
  obtain ⟨mid, hmid⟩ := h.above
  have hfr : (U.setTop g).frames = (.java g :: mid) ++ below := by rw [State.frames_setTop' g h.top, hmid]; rfl
  obtain ⟨o, s₂, hsteps, -, hend, hq⟩ := Steps.callFree hM p X.admits X.cas X.clock (acts := []) hfr happ hPc trivial
  have hq' : vx_Q Qc XC mc ms free a (U.calling g mk a) o s₂ := hq
  rw [State.frames_setTop' g h.top] at hend
  obtain ⟨g₀, hg0⟩ := Option.isSome_iff_exists.mp h.top
  obtain ⟨r, hr⟩ := State.topJava?_eq_some.mp hg0
  have hr' : (({ U with heap := s₂.heap, slotsUsed := s₂.slotsUsed } : State).setVm s₂.vm).frames = .java g₀ :: r := hr
  rcases hq' with ⟨hqc, L, hfe, hL⟩ | ⟨q, rfl, E, ce, L, hx, hce, hcv, hcl, hW₂, hsm, hL⟩
  · obtain ⟨⟨v, rfl⟩, hW₂, e2, q2, q3, q4, q5, q6⟩ := id hfe
    have e3 : s₂ = ({ (U.calling g mk a).setFrames s₂.frames with heap := s₂.heap, slotsUsed := s₂.slotsUsed } : State).setVm s₂.vm := by
      have : s₂ = ({ s₂ with vm := (U.calling g mk a).vm } : State).setVm s₂.vm := rfl
      rw [e2] at this
      exact this
    obtain ⟨c₂, i₂, len₂, hc₂, hd₂, hf₂⟩ := hend
    have hW' : U.WarmedH s₂.vm := hW₂
    have hcc : c₂ = c := by
      have h1 : s₂.code? g.method = U.code? g.method := by
        rw [State.code?_eq, State.code?_eq, hW'.alike.method?]
      exact Option.some.inj (hc₂.symm.trans (h1.trans h.code))
    subst hcc
    have hlen : len₂ = len := by rw [hdg] at hd₂; cases hd₂; rfl
    subst hlen
    have hs₂ : s₂ = (({ U with heap := s₂.heap, slotsUsed := s₂.slotsUsed } : State).setVm s₂.vm).setTop { g with pc := g.pc + len₂, stack := v.toList ++ g.stack } := by
      refine e3.trans ?_
      rw [hf₂, State.calling_eq h.top, State.setFrames_setFrames, State.setTop_of_frames _ hr', hr]
      rfl
    have hsame : U.sameButNew ({ U with heap := s₂.heap, slotsUsed := s₂.slotsUsed } : State) L mc ms := by
      refine ⟨?_, q2, q3, q4, q5, q6⟩
      obtain ⟨t, ht, -⟩ := State.frames_cons hr
      show ({ U with heap := s₂.heap, slotsUsed := s₂.slotsUsed } : State) = { U.setFrames U.frames with heap := s₂.heap, slotsUsed := s₂.slotsUsed }
      rw [State.setFrames_self ht]
    subst hg
    refine Or.inl ⟨v, ⟨(({ U with heap := s₂.heap, slotsUsed := s₂.slotsUsed } : State).setVm s₂.vm), Ls ++ L, c0 + mc, s0 + ms⟩,
      ⟨X.admits, X.cas, X.clock, X.frames, X.room, X.hears, X.method, X.code, (X.here.setHeapUsed s₂.heap s₂.slotsUsed).setVm hW'.alike, X.tail, State.WarmedH.trans X.warmed hW', X.limits, X.bytes, X.same.trans (hsame.setVm s.vm)⟩,
      ⟨g, mk, s₂, L, rfl, rfl, hqc, rfl, hL, rfl, rfl⟩, ?_⟩
    show Steps p.tables e below _ ((({ U with heap := s₂.heap, slotsUsed := s₂.slotsUsed } : State).setVm s₂.vm).setTop { g with pc := g.pc + len₂, stack := v.toList ++ g.stack })
    rw [← hs₂]
    exact hsteps
  · obtain ⟨e2, q2, q3, q4, q5, q6⟩ := id hsm
    have e3 : s₂ = ({ (U.calling g mk a).setFrames s₂.frames with heap := s₂.heap, slotsUsed := s₂.slotsUsed } : State).setVm s₂.vm := by
      have : s₂ = ({ s₂ with vm := (U.calling g mk a).vm } : State).setVm s₂.vm := rfl
      rw [e2] at this
      exact this
    have hf₂ : s₂.frames = .throwing q :: .java g :: U.frames.tail := hend
    have hW' : U.WarmedH s₂.vm := hW₂
    have hs₂ : s₂ = ((({ U with heap := s₂.heap, slotsUsed := s₂.slotsUsed } : State).setVm s₂.vm).setTop g).pushFrame (.throwing q) := by
      refine e3.trans ?_
      rw [hf₂, State.calling_eq h.top, State.setFrames_setFrames, State.pushFrame, State.frames_setTop _ hr', State.setTop_of_frames _ hr', State.setFrames_setFrames, hr]
      rfl
    have hsame : U.sameButNew ({ U with heap := s₂.heap, slotsUsed := s₂.slotsUsed } : State) L mc ms := by
      refine ⟨?_, q2, q3, q4, q5, q6⟩
      obtain ⟨t, ht, -⟩ := State.frames_cons hr
      show ({ U with heap := s₂.heap, slotsUsed := s₂.slotsUsed } : State) = { U.setFrames U.frames with heap := s₂.heap, slotsUsed := s₂.slotsUsed }
      rw [State.setFrames_self ht]
    subst hg
    refine Or.inr ⟨q, ⟨(({ U with heap := s₂.heap, slotsUsed := s₂.slotsUsed } : State).setVm s₂.vm), Ls ++ L, c0 + mc, s0 + ms⟩,
      ⟨X.admits, X.cas, X.clock, X.frames, X.room, X.hears, X.method, X.code, (X.here.setHeapUsed s₂.heap s₂.slotsUsed).setVm hW'.alike, X.tail, State.WarmedH.trans X.warmed hW', X.limits, X.bytes, X.same.trans (hsame.setVm s.vm)⟩,
      ⟨g, mk, s₂, L, E, ce, rfl, rfl, hx, hce, hcv, hcl, rfl, hL, rfl, rfl⟩, ?_⟩
    show Steps p.tables e below _ (((({ U with heap := s₂.heap, slotsUsed := s₂.slotsUsed } : State).setVm s₂.vm).setTop g).pushFrame (.throwing q))
    rw [← hs₂]
    exact hsteps
end Payer
section Calls
variable {p : Program} {l : Launch} {e : Env} {R : Room} {s : State} {m : MethodId} {args : Array Value} {below : List Frame} {meth : Method} {c : Code} {T : State} {locs : List Loc} {cells slots : Nat}
theorem vx_callV (X : Stand p l e R s m args below meth c T locs cells slots) (hexec : p.tables.exec = Jvm.exec) {own C : String} {index : Nat} {y : MethodName} {bytes : ByteArray} {maxL : Nat} {ret : Option FieldType}
    (hown : s.vm.findClass own = some m.cls) (hlink : (Cond.methodLink own index y).before args s = true) (hinst : (Cond.instanceMethod y).before args s = true) (hsel : (Cond.selects C y y).before args s = true)
    (hcode : (Cond.code y bytes maxL ret).before args s = true) (hy : y.cls ≠ "java/lang/invoke/MethodHandle" ∧ y.cls ≠ "java/lang/invoke/VarHandle")
    {W9 : Nat} {Pre : Pt → Array Value → Prop} {Post : Pt → Array Value → Option Value → Pt → Prop} {PostX : Pt → Array Value → Addr → Pt → Prop} (hK : vx_Back l R p e below s args y 3 W9 Pre Post PostX)
    {b : Addr} {cellB : Cell} (hcell : T.heap[b]? = some cellB) (hobj : cellB.vm.isStatics = false) (hcls : s.vm.findClass C = some cellB.cls)
    {g : JFrame} (hg : g.method = m) (hsize : g.locals.size = c.maxLocals) {argsL rest : List Value} (hlen : ∀ sig, parseMethodDescriptor y.desc = some sig → argsL.length = sig.parameters.length)
    (hstack : g.stack = argsL.reverse ++ .ref b :: rest) (hW : 2 * g.monitorRoom + (rest.map fun v => v.category).sum ≤ W9) (hdg : decode c.code g.pc = .ok (.invokevirtual index, 3))
    (hpre : ∀ vm₁, s.WarmedH vm₁ → Pre ⟨T.setVm vm₁, locs, cells, slots⟩ (Value.ref b :: argsL).toArray) :
    (∃ (v : Option Value) (vm₁ : Vm) (B : Pt), s.WarmedH vm₁ ∧ Stand p l e R s m args below meth c B.U B.locs B.cells B.slots ∧ Post ⟨T.setVm vm₁, locs, cells, slots⟩ (Value.ref b :: argsL).toArray v B ∧
      ∀ target, Steps p.tables e below (B.U.setTop { g with pc := g.pc + 3, stack := v.toList ++ rest }) target → Steps p.tables e below (T.setTop g) target) ∨
    (∃ (q : Addr) (vm₁ : Vm) (B : Pt), s.WarmedH vm₁ ∧ Stand p l e R s m args below meth c B.U B.locs B.cells B.slots ∧ PostX ⟨T.setVm vm₁, locs, cells, slots⟩ (Value.ref b :: argsL).toArray q B ∧
      Steps p.tables e below (T.setTop g) ((B.U.setTop { g with stack := rest }).pushFrame (.throwing q))) := by
  obtain ⟨mk, methM, hnamed, hmethM, hstM, habM⟩ := Cond.instanceMethod_spec hinst
  obtain ⟨methM', cM, hmethM', -, -, -, -, -, -, hsigM⟩ := Cond.code_spec hnamed hcode
  cases hmethM.symm.trans hmethM'
  obtain ⟨c2, r2, m2, q1, q2, q3, q4, kP, hkP, hkPi⟩ := Cond.selects_spec hsel
  cases hcls.symm.trans q1
  cases (State.methodFound?_of_named hnamed hy).symm.trans q2
  cases hnamed.symm.trans q3
  have hselP : selectMethod e.platform s.vm cellB.cls mk = .method mk := by rw [Launch.admits_selectMethod X.admits]; exact q4
  obtain ⟨vm₁, X₁, hstep₁⟩ := X.invokevirtual hexec hown hlink hnamed hmethM hstM hkP hkPi hy (a := b) (cell := cellB) hcell
    (fun z h => by rw [h] at hobj; cases hobj) hselP hmethM habM hkP hkPi (g := g) hg (argsL := argsL) (rest := rest) (hlen _ hsigM) hstack hdg
  rcases hK m meth c ⟨T.setVm vm₁, locs, cells, slots⟩ { g with stack := rest } (.invokevirtual index) mk (Value.ref b :: argsL).toArray X₁ hg hsize hdg hW (X₁.named hnamed) (hpre vm₁ X₁.warmed) with ⟨v, B, X', hpost, hsteps⟩ | ⟨q, B, X', hpost, hsteps⟩
  · exact Or.inl ⟨v, vm₁, B, X₁.warmed, X', hpost, fun target h => hstep₁ _ fun acts => by rw [doInvoke_state]; exact hsteps.trans h⟩
  · exact Or.inr ⟨q, vm₁, B, X₁.warmed, X', hpost, hstep₁ _ fun acts => by rw [doInvoke_state]; exact hsteps⟩
theorem vx_callS (X : Stand p l e R s m args below meth c T locs cells slots) (hexec : p.tables.exec = Jvm.exec) {own : String} {index : Nat} {y : MethodName} {bytes : ByteArray} {maxL : Nat} {ret : Option FieldType}
    (hown : s.vm.findClass own = some m.cls) (hlink : (Cond.methodLink own index y).before args s = true) (hstat : (Cond.static y).before args s = true) (hinit : (Cond.initialized y.cls).before args s = true)
    (hcode : (Cond.code y bytes maxL ret).before args s = true) (hy : y.cls ≠ "java/lang/invoke/MethodHandle" ∧ y.cls ≠ "java/lang/invoke/VarHandle")
    {W9 : Nat} {Pre : Pt → Array Value → Prop} {Post : Pt → Array Value → Option Value → Pt → Prop} {PostX : Pt → Array Value → Addr → Pt → Prop} (hK : vx_Back l R p e below s args y 3 W9 Pre Post PostX)
    {g : JFrame} (hg : g.method = m) (hsize : g.locals.size = c.maxLocals) {argsL rest : List Value} (hlen : ∀ sig, parseMethodDescriptor y.desc = some sig → argsL.length = sig.parameters.length)
    (hstack : g.stack = argsL.reverse ++ rest) (hW : 2 * g.monitorRoom + (rest.map fun v => v.category).sum ≤ W9) (hdg : decode c.code g.pc = .ok (.invokestatic index, 3))
    (hpre : ∀ vm₁, s.WarmedH vm₁ → Pre ⟨T.setVm vm₁, locs, cells, slots⟩ argsL.toArray) :
    (∃ (v : Option Value) (vm₁ : Vm) (B : Pt), s.WarmedH vm₁ ∧ Stand p l e R s m args below meth c B.U B.locs B.cells B.slots ∧ Post ⟨T.setVm vm₁, locs, cells, slots⟩ argsL.toArray v B ∧
      ∀ target, Steps p.tables e below (B.U.setTop { g with pc := g.pc + 3, stack := v.toList ++ rest }) target → Steps p.tables e below (T.setTop g) target) ∨
    (∃ (q : Addr) (vm₁ : Vm) (B : Pt), s.WarmedH vm₁ ∧ Stand p l e R s m args below meth c B.U B.locs B.cells B.slots ∧ PostX ⟨T.setVm vm₁, locs, cells, slots⟩ argsL.toArray q B ∧
      Steps p.tables e below (T.setTop g) ((B.U.setTop { g with stack := rest }).pushFrame (.throwing q))) := by
  obtain ⟨mk, hnamed⟩ := Cond.code_named hcode
  obtain ⟨methM, cM, hmethM, -, -, -, -, -, -, hsigM⟩ := Cond.code_spec hnamed hcode
  have hstatic : methM.isStatic = true := Cond.static_spec hnamed hmethM hstat
  obtain ⟨kP, hkP, -⟩ := className_of_methodNamed hnamed
  have hinitP : kP.init = .initialized := Cond.initialized_spec (findClass_of_methodNamed hnamed) hkP hinit
  obtain ⟨vm₁, X₁, hstep₁⟩ := X.invokestatic hexec hown hlink hnamed hmethM hstatic hkP hinitP hy (g := g) hg (argsL := argsL) (rest := rest) (hlen _ hsigM) hstack hdg
  rcases hK m meth c ⟨T.setVm vm₁, locs, cells, slots⟩ { g with stack := rest } (.invokestatic index) mk argsL.toArray X₁ hg hsize hdg hW (X₁.named hnamed) (hpre vm₁ X₁.warmed) with ⟨v, B, X', hpost, hsteps⟩ | ⟨q, B, X', hpost, hsteps⟩
  · exact Or.inl ⟨v, vm₁, B, X₁.warmed, X', hpost, fun target h => hstep₁ _ fun acts => by rw [doInvoke_state]; exact hsteps.trans h⟩
  · exact Or.inr ⟨q, vm₁, B, X₁.warmed, X', hpost, hstep₁ _ fun acts => by rw [doInvoke_state]; exact hsteps⟩
end Calls
theorem vx_cls {s : State} {T : State} {vm₁ : Vm} {E : String} {k : ClassId} (hW : s.WarmedH vm₁) (h : (T.setVm vm₁).vm.findClass E = some k) : s.vm.findClass E = some k := by
  have h1 : vm₁.findClass E = some k := h
  rw [hW.alike.findClass] at h1
  exact h1
/-- the method's frame g, with q thrown over it -/
def vx_W (p : Program) (l : Launch) (e : Env) (R : Room) (s : State) (m : MethodId) (args : Array Value) (below : List Frame) (meth : Method) (c : Code) (H : Heap) (locs : List Loc) (cells slots : Nat) (Q : State → Prop) (g : JFrame) (q : Addr) : Prop :=
  ∀ T : State, T.heap = H → Stand p l e R s m args below meth c T locs cells slots → ∃ t, Steps p.tables e below ((T.setTop g).pushFrame (.throwing q)) t ∧ Q t
def vx_Run (p : Program) (l : Launch) (e : Env) (R : Room) (s : State) (m : MethodId) (args : Array Value) (below : List Frame) (meth : Method) (c : Code) (H : Heap) (locs : List Loc) (cells slots mc ms : Nat) (g : JFrame) (rest : List Value) (Qa : State → Outcome → State → Prop) (XC : String → State → State → Prop) (free : Addr → Prop) : Prop :=
  ∀ T : State, T.heap = H → Stand p l e R s m args below meth c T locs cells slots →
    (∃ (v : Option Value) (st₀ t T' : State) (L : List Loc), st₀.heap = H ∧ Stand p l e R s m args below meth c T' (locs ++ L) (cells + mc) (slots + ms) ∧ (∀ q ∈ L, free q.base) ∧ T'.heap = t.heap ∧ T'.vm = t.vm ∧ Qa st₀ (.returned v) t ∧
      Goes p e below T g T' { g with pc := g.pc + 3, stack := v.toList ++ rest }) ∨
    (∃ (q : Addr) (st₀ t T' : State) (L : List Loc) (E : String) (ce : Cell), st₀.heap = H ∧ Stand p l e R s m args below meth c T' (locs ++ L) (cells + mc) (slots + ms) ∧ (∀ z ∈ L, free z.base) ∧ T'.heap = t.heap ∧ T'.vm = t.vm ∧ XC E st₀ t ∧ t.heap[q]? = some ce ∧ ce.vm = .none ∧ s.vm.findClass E = some ce.cls ∧
      Steps p.tables e below (T.setTop g) ((T'.setTop { g with stack := rest }).pushFrame (.throwing q)))
def vx_X {S : Type} (px : S → Prop) (B : String → S → State → Prop) (A : Nat → Prop) : String → State → State → Prop := fun E st t => ∃ u : S, px u ∧ B E u t ∧ va_F A st t
section Runs
variable {p : Program} {l : Launch} {e : Env} {R : Room} {s : State} {m : MethodId} {args : Array Value} {below : List Frame} {meth : Method} {c : Code} {H : Heap} {locs : List Loc} {cells slots : Nat}
variable {y : MethodName} {bytes cc : ByteArray} {maxL nL mc ms n index : Nat} {ret : Option FieldType} {ws : List Cond} {rm : Room} {Pc : Array Value → State → Prop} {Qc : Array Value → State → Outcome → State → Prop} {XC : String → State → State → Prop} {free : Addr → Prop} {Ts : List Cond} {own C : String} {b : Addr} {As rest : List Value} {g : JFrame}
theorem vx_callBack (cb : CallB R s args own index y bytes maxL ret ws rm mc ms n) (hM : vx_Met l y ws rm Pc Qc XC mc ms free) (hbl : FrameBlind Pc) : vx_Back l R p e below s args y 3 8 (PreOf R mc ms Pc) (PostOf Qc mc ms free) (vx_Post XC mc ms free) := by
  obtain ⟨hrc, hrs, hfr, hlo, hws, hcw, -, hini, -⟩ := cb
  exact vx_back (bytes := bytes) (maxL := maxL) (ret := ret) hM hbl hrc hrs hfr hlo hws hcw (fun a' U hW => word_at hW (Or.inl (by first | rfl | simp [Cond.onTables, Cond.keeps, Cond.steady])) hini)
theorem vx_runV (S : CallFix p m c cc nL s args Ts own) (hM : vx_Met l y ws rm Pc Qc XC mc ms free) (cw : CallW R s args own C index y bytes maxL ret ws rm mc ms n) (hp : PreV s H C b Pc As)
    (hg : g.method = m) (hn : As.length = n) (hsize : g.locals.size = nL) (hstack : g.stack = As.reverse ++ .ref b :: rest) (hW : 2 * g.monitorRoom + (rest.map fun v => v.category).sum ≤ 8) (hdg : decode cc g.pc = .ok (.invokevirtual index, 3)) (hf : cells + mc ≤ R.cells ∧ slots + ms ≤ R.slots) :
    vx_Run p l e R s m args below meth c H locs cells slots mc ms g rest (Qc (Value.ref b :: As).toArray) XC free := by
  have hK : vx_Back l R p e below s args y 3 8 (PreOf R mc ms Pc) (PostOf Qc mc ms free) (vx_Post XC mc ms free) := vx_callBack cw.1 hM hp.1
  obtain ⟨⟨-, -, -, -, -, -, hcode, -, hy, hlen, hl⟩, hin, hse⟩ := cw
  obtain ⟨hx, hb, hml, ho, -⟩ := S
  obtain ⟨-, ⟨cellB, hcB, hoB, hclB⟩, hPc⟩ := hp
  intro T hT X
  rcases vx_callV X hx (C := C) (bytes := bytes) (maxL := maxL) (ret := ret) ho hl hin hse hcode hy hK (by rw [hT]; exact hcB) hoB hclB hg (hsize.trans hml.symm) (argsL := As) (rest := rest) (fun sig h => hn.trans (hlen sig h)) hstack hW (by rw [hb]; exact hdg)
    (fun vm₁ hW₁ => ⟨hf.1, hf.2, hPc (T.setVm vm₁) hT hW₁⟩) with ⟨v, vm₁, ⟨U', l2, c2, s2⟩, hW₁, X', ⟨g', mk, t, L, e1, e2, hq, h1, hL, h2, h3⟩, st⟩ | ⟨q, vm₁, ⟨U', l2, c2, s2⟩, hW₁, X', ⟨g', mk, t, L, E, ce, e1, e2, hq, hce, hcv, hcl, h1, hL, h2, h3⟩, st⟩
  · dsimp only [Pt.U, Pt.locs, Pt.cells, Pt.slots] at X' e1 e2 h1 h2 h3 st
    subst h1; subst h2; subst h3
    exact Or.inl ⟨v, (T.setVm vm₁).calling g' mk (Value.ref b :: As).toArray, t, U', L, hT, X', hL, e1, e2, hq, st⟩
  · dsimp only [Pt.U, Pt.locs, Pt.cells, Pt.slots] at X' e1 e2 h1 h2 h3 st hcl
    subst h1; subst h2; subst h3
    exact Or.inr ⟨q, (T.setVm vm₁).calling g' mk (Value.ref b :: As).toArray, t, U', L, E, ce, hT, X', hL, e1, e2, hq, hce, hcv, vx_cls hW₁ hcl, st⟩
theorem vx_runS (S : CallFix p m c cc nL s args Ts own) (hM : vx_Met l y ws rm Pc Qc XC mc ms free) (cw : CallB R s args own index y bytes maxL ret ws rm mc ms n ∧ (Cond.static y).before args s = true) (hp : PreS s H Pc As)
    (hg : g.method = m) (hn : As.length = n) (hsize : g.locals.size = nL) (hstack : g.stack = As.reverse ++ rest) (hW : 2 * g.monitorRoom + (rest.map fun v => v.category).sum ≤ 8) (hdg : decode cc g.pc = .ok (.invokestatic index, 3)) (hf : cells + mc ≤ R.cells ∧ slots + ms ≤ R.slots) :
    vx_Run p l e R s m args below meth c H locs cells slots mc ms g rest (Qc As.toArray) XC free := by
  have hK : vx_Back l R p e below s args y 3 8 (PreOf R mc ms Pc) (PostOf Qc mc ms free) (vx_Post XC mc ms free) := vx_callBack cw.1 hM hp.1
  obtain ⟨⟨-, -, -, -, -, -, hcode, hini, hy, hlen, hl⟩, hstt⟩ := cw
  obtain ⟨hx, hb, hml, ho, -⟩ := S
  intro T hT X
  rcases vx_callS X hx (bytes := bytes) (maxL := maxL) (ret := ret) ho hl hstt hini hcode hy hK hg (hsize.trans hml.symm) (argsL := As) (rest := rest) (fun sig h => hn.trans (hlen sig h)) hstack hW (by rw [hb]; exact hdg)
    (fun vm₁ hW₁ => ⟨hf.1, hf.2, hp.2 (T.setVm vm₁) hT hW₁⟩) with ⟨v, vm₁, ⟨U', l2, c2, s2⟩, hW₁, X', ⟨g', mk, t, L, e1, e2, hq, h1, hL, h2, h3⟩, st⟩ | ⟨q, vm₁, ⟨U', l2, c2, s2⟩, hW₁, X', ⟨g', mk, t, L, E, ce, e1, e2, hq, hce, hcv, hcl, h1, hL, h2, h3⟩, st⟩
  · dsimp only [Pt.U, Pt.locs, Pt.cells, Pt.slots] at X' e1 e2 h1 h2 h3 st
    subst h1; subst h2; subst h3
    exact Or.inl ⟨v, (T.setVm vm₁).calling g' mk As.toArray, t, U', L, hT, X', hL, e1, e2, hq, st⟩
  · dsimp only [Pt.U, Pt.locs, Pt.cells, Pt.slots] at X' e1 e2 h1 h2 h3 st hcl
    subst h1; subst h2; subst h3
    exact Or.inr ⟨q, (T.setVm vm₁).calling g' mk As.toArray, t, U', L, E, ce, hT, X', hL, e1, e2, hq, hce, hcv, vx_cls hW₁ hcl, st⟩
end Runs
section Rows
variable {p : Program} {l : Launch} {e : Env} {R : Room} {s : State} {m : MethodId} {args : Array Value} {below : List Frame} {meth : Method} {c : Code} {H : Heap} {locs : List Loc} {cells slots : Nat} {Q : State → Prop}
variable {mc ms : Nat} {free : Addr → Prop} {A0 A1 : Nat → Prop} {H0 : Heap} {a : Array Value} {pc : Nat} {ls : Array Slot} {st0 rest : List Value}
theorem vx_keep {st₀ t T' : State} {L : List Loc} (h0 : st₀.heap = H) (e1 : T'.heap = t.heap) (hS : va_S A0 H0 H locs) (hA : ∀ q, q < H.size → A1 q → A0 q) (hf : ∀ q, free q → A0 q) (hL : ∀ q ∈ L, free q.base) (hF : va_F A1 st₀ t) :
    H.size ≤ T'.heap.size ∧ (∀ q : Nat, q < H.size → ¬ A1 q → T'.heap[q]? = H[q]?) ∧ va_S A0 H0 T'.heap (locs ++ L) := by
  obtain ⟨hz, hk⟩ := hF
  rw [h0] at hz hk
  exact ⟨by rw [e1]; exact hz, fun q h1 h2 => by rw [e1]; exact hk q h1 h2,
    ⟨Nat.le_trans hS.1 (by rw [e1]; exact hz), fun q h1 h2 => by rw [e1, hk q (Nat.lt_of_lt_of_le h1 hS.1) (fun z => h2 (hA q (Nat.lt_of_lt_of_le h1 hS.1) z))]; exact hS.2.1 q h1 h2, fun q hq => by
      rcases List.mem_append.mp hq with h | h
      · exact hS.2.2 q h
      · exact hf _ (hL q h)⟩⟩
theorem vx_calli {S SX : Type} {post : Int32 → S → Prop} {px : SX → Prop} {B : S → State → Prop} {BX : String → SX → State → Prop} {AX : Nat → Prop} (hr : vx_Run p l e R s m args below meth c H locs cells slots mc ms (F0 m pc ls st0) rest (va_Qi post B A1 a) (vx_X px BX AX) free) (hS : va_S A0 H0 H locs) (hA : ∀ q, q < H.size → A1 q → A0 q) (hf : ∀ q, free q → A0 q) (hAX : ∀ q, q < H.size → AX q → A0 q)
    (kx : ∀ (E : String) (ce : Cell) (q9 : Addr) (u : SX) (t : State) (H1 : Heap) (locs1 : List Loc), t.heap = H1 → s.vm.Alike t.vm → px u → BX E u t → H.size ≤ H1.size → (∀ q : Nat, q < H.size → ¬ AX q → H1[q]? = H[q]?) → va_S A0 H0 H1 locs1 → H1[q9]? = some ce → ce.vm = .none → s.vm.findClass E = some ce.cls → vx_W p l e R s m args below meth c H1 locs1 (cells + mc) (slots + ms) Q (F0 m pc ls rest) q9)
    (kk : ∀ (r : Int32) (u : S) (t : State) (H1 : Heap) (locs1 : List Loc), t.heap = H1 → s.vm.Alike t.vm → post r u → B u t → H.size ≤ H1.size → (∀ q : Nat, q < H.size → ¬ A1 q → H1[q]? = H[q]?) → va_S A0 H0 H1 locs1 → W p l e R s m args below meth c H1 locs1 (cells + mc) (slots + ms) Q (F0 m (pc + 3) ls (.int r :: rest))) : W p l e R s m args below meth c H locs cells slots Q (F0 m pc ls st0) := by
  intro T hT X
  rcases hr T hT X with ⟨v, st₀, t, T', L, h0, X', hL, e1, e2, ⟨⟨r, u, hv, hp, hb⟩, hF⟩, st⟩ | ⟨q, st₀, t, T', L, E, ce, h0, X', hL, e1, e2, ⟨u, hp, hb, hF⟩, hce, hcv, hcl, st⟩
  · cases hv
    obtain ⟨k1, k2, k3⟩ := vx_keep h0 e1 hS hA hf hL hF
    obtain ⟨t2, a1, b1⟩ := kk r u t T'.heap (locs ++ L) e1.symm (by rw [← e2]; exact X'.warmed.alike) hp hb k1 k2 k3 T' rfl X'
    exact ⟨t2, st t2 a1, b1⟩
  · obtain ⟨k1, k2, k3⟩ := vx_keep h0 e1 hS hAX hf hL hF
    obtain ⟨t2, a1, b1⟩ := kx E ce q u t T'.heap (locs ++ L) e1.symm (by rw [← e2]; exact X'.warmed.alike) hp hb k1 k2 k3 (by rw [e1]; exact hce) hcv hcl T' rfl X'
    exact ⟨t2, st.trans a1, b1⟩
theorem vx_calll {S SX : Type} {post : Int64 → S → Prop} {px : SX → Prop} {B : S → State → Prop} {BX : String → SX → State → Prop} {AX : Nat → Prop} (hr : vx_Run p l e R s m args below meth c H locs cells slots mc ms (F0 m pc ls st0) rest (va_Ql post B A1 a) (vx_X px BX AX) free) (hS : va_S A0 H0 H locs) (hA : ∀ q, q < H.size → A1 q → A0 q) (hf : ∀ q, free q → A0 q) (hAX : ∀ q, q < H.size → AX q → A0 q)
    (kx : ∀ (E : String) (ce : Cell) (q9 : Addr) (u : SX) (t : State) (H1 : Heap) (locs1 : List Loc), t.heap = H1 → s.vm.Alike t.vm → px u → BX E u t → H.size ≤ H1.size → (∀ q : Nat, q < H.size → ¬ AX q → H1[q]? = H[q]?) → va_S A0 H0 H1 locs1 → H1[q9]? = some ce → ce.vm = .none → s.vm.findClass E = some ce.cls → vx_W p l e R s m args below meth c H1 locs1 (cells + mc) (slots + ms) Q (F0 m pc ls rest) q9)
    (kk : ∀ (r : Int64) (u : S) (t : State) (H1 : Heap) (locs1 : List Loc), t.heap = H1 → s.vm.Alike t.vm → post r u → B u t → H.size ≤ H1.size → (∀ q : Nat, q < H.size → ¬ A1 q → H1[q]? = H[q]?) → va_S A0 H0 H1 locs1 → W p l e R s m args below meth c H1 locs1 (cells + mc) (slots + ms) Q (F0 m (pc + 3) ls (.long r :: rest))) : W p l e R s m args below meth c H locs cells slots Q (F0 m pc ls st0) := by
  intro T hT X
  rcases hr T hT X with ⟨v, st₀, t, T', L, h0, X', hL, e1, e2, ⟨⟨r, u, hv, hp, hb⟩, hF⟩, st⟩ | ⟨q, st₀, t, T', L, E, ce, h0, X', hL, e1, e2, ⟨u, hp, hb, hF⟩, hce, hcv, hcl, st⟩
  · cases hv
    obtain ⟨k1, k2, k3⟩ := vx_keep h0 e1 hS hA hf hL hF
    obtain ⟨t2, a1, b1⟩ := kk r u t T'.heap (locs ++ L) e1.symm (by rw [← e2]; exact X'.warmed.alike) hp hb k1 k2 k3 T' rfl X'
    exact ⟨t2, st t2 a1, b1⟩
  · obtain ⟨k1, k2, k3⟩ := vx_keep h0 e1 hS hAX hf hL hF
    obtain ⟨t2, a1, b1⟩ := kx E ce q u t T'.heap (locs ++ L) e1.symm (by rw [← e2]; exact X'.warmed.alike) hp hb k1 k2 k3 (by rw [e1]; exact hce) hcv hcl T' rfl X'
    exact ⟨t2, st.trans a1, b1⟩
theorem vx_callf {S SX : Type} {post : UInt32 → S → Prop} {px : SX → Prop} {B : S → State → Prop} {BX : String → SX → State → Prop} {AX : Nat → Prop} (hr : vx_Run p l e R s m args below meth c H locs cells slots mc ms (F0 m pc ls st0) rest (va_Qf post B A1 a) (vx_X px BX AX) free) (hS : va_S A0 H0 H locs) (hA : ∀ q, q < H.size → A1 q → A0 q) (hf : ∀ q, free q → A0 q) (hAX : ∀ q, q < H.size → AX q → A0 q)
    (kx : ∀ (E : String) (ce : Cell) (q9 : Addr) (u : SX) (t : State) (H1 : Heap) (locs1 : List Loc), t.heap = H1 → s.vm.Alike t.vm → px u → BX E u t → H.size ≤ H1.size → (∀ q : Nat, q < H.size → ¬ AX q → H1[q]? = H[q]?) → va_S A0 H0 H1 locs1 → H1[q9]? = some ce → ce.vm = .none → s.vm.findClass E = some ce.cls → vx_W p l e R s m args below meth c H1 locs1 (cells + mc) (slots + ms) Q (F0 m pc ls rest) q9)
    (kk : ∀ (r : UInt32) (u : S) (t : State) (H1 : Heap) (locs1 : List Loc), t.heap = H1 → s.vm.Alike t.vm → post r u → B u t → H.size ≤ H1.size → (∀ q : Nat, q < H.size → ¬ A1 q → H1[q]? = H[q]?) → va_S A0 H0 H1 locs1 → W p l e R s m args below meth c H1 locs1 (cells + mc) (slots + ms) Q (F0 m (pc + 3) ls (.float r :: rest))) : W p l e R s m args below meth c H locs cells slots Q (F0 m pc ls st0) := by
  intro T hT X
  rcases hr T hT X with ⟨v, st₀, t, T', L, h0, X', hL, e1, e2, ⟨⟨r, u, hv, hp, hb⟩, hF⟩, st⟩ | ⟨q, st₀, t, T', L, E, ce, h0, X', hL, e1, e2, ⟨u, hp, hb, hF⟩, hce, hcv, hcl, st⟩
  · cases hv
    obtain ⟨k1, k2, k3⟩ := vx_keep h0 e1 hS hA hf hL hF
    obtain ⟨t2, a1, b1⟩ := kk r u t T'.heap (locs ++ L) e1.symm (by rw [← e2]; exact X'.warmed.alike) hp hb k1 k2 k3 T' rfl X'
    exact ⟨t2, st t2 a1, b1⟩
  · obtain ⟨k1, k2, k3⟩ := vx_keep h0 e1 hS hAX hf hL hF
    obtain ⟨t2, a1, b1⟩ := kx E ce q u t T'.heap (locs ++ L) e1.symm (by rw [← e2]; exact X'.warmed.alike) hp hb k1 k2 k3 (by rw [e1]; exact hce) hcv hcl T' rfl X'
    exact ⟨t2, st.trans a1, b1⟩
theorem vx_calld {S SX : Type} {post : UInt64 → S → Prop} {px : SX → Prop} {B : S → State → Prop} {BX : String → SX → State → Prop} {AX : Nat → Prop} (hr : vx_Run p l e R s m args below meth c H locs cells slots mc ms (F0 m pc ls st0) rest (va_Qd post B A1 a) (vx_X px BX AX) free) (hS : va_S A0 H0 H locs) (hA : ∀ q, q < H.size → A1 q → A0 q) (hf : ∀ q, free q → A0 q) (hAX : ∀ q, q < H.size → AX q → A0 q)
    (kx : ∀ (E : String) (ce : Cell) (q9 : Addr) (u : SX) (t : State) (H1 : Heap) (locs1 : List Loc), t.heap = H1 → s.vm.Alike t.vm → px u → BX E u t → H.size ≤ H1.size → (∀ q : Nat, q < H.size → ¬ AX q → H1[q]? = H[q]?) → va_S A0 H0 H1 locs1 → H1[q9]? = some ce → ce.vm = .none → s.vm.findClass E = some ce.cls → vx_W p l e R s m args below meth c H1 locs1 (cells + mc) (slots + ms) Q (F0 m pc ls rest) q9)
    (kk : ∀ (r : UInt64) (u : S) (t : State) (H1 : Heap) (locs1 : List Loc), t.heap = H1 → s.vm.Alike t.vm → post r u → B u t → H.size ≤ H1.size → (∀ q : Nat, q < H.size → ¬ A1 q → H1[q]? = H[q]?) → va_S A0 H0 H1 locs1 → W p l e R s m args below meth c H1 locs1 (cells + mc) (slots + ms) Q (F0 m (pc + 3) ls (.double r :: rest))) : W p l e R s m args below meth c H locs cells slots Q (F0 m pc ls st0) := by
  intro T hT X
  rcases hr T hT X with ⟨v, st₀, t, T', L, h0, X', hL, e1, e2, ⟨⟨r, u, hv, hp, hb⟩, hF⟩, st⟩ | ⟨q, st₀, t, T', L, E, ce, h0, X', hL, e1, e2, ⟨u, hp, hb, hF⟩, hce, hcv, hcl, st⟩
  · cases hv
    obtain ⟨k1, k2, k3⟩ := vx_keep h0 e1 hS hA hf hL hF
    obtain ⟨t2, a1, b1⟩ := kk r u t T'.heap (locs ++ L) e1.symm (by rw [← e2]; exact X'.warmed.alike) hp hb k1 k2 k3 T' rfl X'
    exact ⟨t2, st t2 a1, b1⟩
  · obtain ⟨k1, k2, k3⟩ := vx_keep h0 e1 hS hAX hf hL hF
    obtain ⟨t2, a1, b1⟩ := kx E ce q u t T'.heap (locs ++ L) e1.symm (by rw [← e2]; exact X'.warmed.alike) hp hb k1 k2 k3 (by rw [e1]; exact hce) hcv hcl T' rfl X'
    exact ⟨t2, st.trans a1, b1⟩
theorem vx_callv {S SX : Type} {post : S → Prop} {px : SX → Prop} {B : S → State → Prop} {BX : String → SX → State → Prop} {AX : Nat → Prop} (hr : vx_Run p l e R s m args below meth c H locs cells slots mc ms (F0 m pc ls st0) rest (va_Qv post B A1 a) (vx_X px BX AX) free) (hS : va_S A0 H0 H locs) (hA : ∀ q, q < H.size → A1 q → A0 q) (hf : ∀ q, free q → A0 q) (hAX : ∀ q, q < H.size → AX q → A0 q)
    (kx : ∀ (E : String) (ce : Cell) (q9 : Addr) (u : SX) (t : State) (H1 : Heap) (locs1 : List Loc), t.heap = H1 → s.vm.Alike t.vm → px u → BX E u t → H.size ≤ H1.size → (∀ q : Nat, q < H.size → ¬ AX q → H1[q]? = H[q]?) → va_S A0 H0 H1 locs1 → H1[q9]? = some ce → ce.vm = .none → s.vm.findClass E = some ce.cls → vx_W p l e R s m args below meth c H1 locs1 (cells + mc) (slots + ms) Q (F0 m pc ls rest) q9)
    (kk : ∀ (u : S) (t : State) (H1 : Heap) (locs1 : List Loc), t.heap = H1 → s.vm.Alike t.vm → post u → B u t → H.size ≤ H1.size → (∀ q : Nat, q < H.size → ¬ A1 q → H1[q]? = H[q]?) → va_S A0 H0 H1 locs1 → W p l e R s m args below meth c H1 locs1 (cells + mc) (slots + ms) Q (F0 m (pc + 3) ls (rest))) : W p l e R s m args below meth c H locs cells slots Q (F0 m pc ls st0) := by
  intro T hT X
  rcases hr T hT X with ⟨v, st₀, t, T', L, h0, X', hL, e1, e2, ⟨⟨u, hv, hp, hb⟩, hF⟩, st⟩ | ⟨q, st₀, t, T', L, E, ce, h0, X', hL, e1, e2, ⟨u, hp, hb, hF⟩, hce, hcv, hcl, st⟩
  · cases hv
    obtain ⟨k1, k2, k3⟩ := vx_keep h0 e1 hS hA hf hL hF
    obtain ⟨t2, a1, b1⟩ := kk u t T'.heap (locs ++ L) e1.symm (by rw [← e2]; exact X'.warmed.alike) hp hb k1 k2 k3 T' rfl X'
    exact ⟨t2, st t2 a1, b1⟩
  · obtain ⟨k1, k2, k3⟩ := vx_keep h0 e1 hS hAX hf hL hF
    obtain ⟨t2, a1, b1⟩ := kx E ce q u t T'.heap (locs ++ L) e1.symm (by rw [← e2]; exact X'.warmed.alike) hp hb k1 k2 k3 (by rw [e1]; exact hce) hcv hcl T' rfl X'
    exact ⟨t2, st.trans a1, b1⟩
end Rows
section Ends
variable {p : Program} {l : Launch} {e : Env} {R : Room} {s : State} {m : MethodId} {args : Array Value} {below : List Frame} {meth : Method} {c : Code} {H : Heap} {locs : List Loc} {cells slots : Nat} {Q : State → Prop}
variable {mc ms : Nat} {free : Addr → Prop} {A0 A1 : Nat → Prop} {H0 : Heap} {a : Array Value} {ls : Array Slot} {st0 rest : List Value}
variable {Qc : Array Value → State → Outcome → State → Prop} {XC : String → State → State → Prop}
/-- what a body that may throw owes at its end -/
def vx_MQ (below : List Frame) (Qc : Array Value → State → Outcome → State → Prop) (XC : String → State → State → Prop) (a : Array Value) (s : State) (mc ms : Nat) (free : Addr → Prop) : State → Prop := fun t =>
  ∃ o, t.status = .running ∧ Ended t below o ∧ vx_Q Qc XC mc ms free a s o t
theorem vx_ret {g : JFrame} {mc ms : Nat} (k : W p l e R s m args below meth c H locs cells slots (MQ below Qc args s mc ms free) g) : W p l e R s m args below meth c H locs cells slots (vx_MQ below Qc XC args s mc ms free) g := by
  intro T hT X
  obtain ⟨t, a1, o, b1, b2, b3, b4⟩ := k T hT X
  exact ⟨t, a1, o, b1, b2, Or.inl ⟨b3, b4⟩⟩
/-- not caught here: it goes on to the caller -/
theorem vx_widen {g : JFrame} {q : Addr} {k n : Nat} (h1 : cells ≤ k) (h2 : slots ≤ n) (kk : vx_W p l e R s m args below meth c H locs k n Q g q) : vx_W p l e R s m args below meth c H locs cells slots Q g q := fun T hT X => kk T hT (stand_widen X h1 h2)
theorem vx_out {pc : Nat} {E : String} {ce : Cell} {q : Addr} {mc ms : Nat} (hout : ∀ x ∈ c.exceptionTable.toList, covers x pc = false) (hlocks : meth.locks = false) (hcell : H[q]? = some ce) (hv : ce.vm = .none) (hcl : s.vm.findClass E = some ce.cls)
    (hx : ∀ t : State, t.heap = H → s.vm.Alike t.vm → XC E s t) (hf : ∀ z ∈ locs, free z.base) (hc : cells ≤ mc) (hs : slots ≤ ms) :
    vx_W p l e R s m args below meth c H locs cells slots (vx_MQ below Qc XC args s mc ms free) (F0 m pc ls rest) q := by
  intro T hT X
  obtain ⟨st1, hrun, hend, hW, hsm⟩ := X.leaveThrown q (g := F0 m pc ls rest) rfl rfl rfl hout hlocks
  have hcell9 : (T.setFrames (.throwing q :: below)).heap[q]? = some ce := by
    show T.heap[q]? = some ce
    rw [hT]; exact hcell
  exact ⟨_, st1, .threw q, hrun, hend, Or.inr ⟨q, rfl, E, ce, locs, hx _ hT hW.alike, hcell9, hv, hcl, hW, hsm.mono hc hs, hf⟩⟩
theorem vx_frame {U : State} {k n : Nat} (h : s.sameButNew ({ U with vm := s.vm } : State) locs k n) : s.heap.size ≤ U.heap.size ∧ ∀ q : Nat, q < s.heap.size → (∀ z ∈ locs, z.base ≠ q) → U.heap[q]? = s.heap[q]? := by
  obtain ⟨-, h2, -, -, -, h6⟩ := h
  refine ⟨h2, fun q hq hz => ?_⟩
  obtain ⟨c9, e1, e2, e3, e4⟩ := h6 q _ (Array.getElem?_eq_getElem hq)
  have hs : c9.slots = (s.heap[q]).slots := Array.ext_getElem? fun i => e4 i fun hm => hz _ hm rfl
  have h9 : c9 = s.heap[q] := by
    rw [hs] at e2
    exact e2
  have e5 : U.heap[q]? = some c9 := e1
  rw [e5, h9, Array.getElem?_eq_getElem hq]
/-- the words of a throw but the four that speak of the heap -/
def vx_no (w : Cond) : Bool := decide (w ≠ .isRef (.static Bundle.tN "UNASSIGNED_STACK" Bundle.steD)) && decide (w ≠ .isRef (.static Bundle.tN "SUPPRESSED_SENTINEL" Bundle.listD)) && decide (w ≠ .laysStatic Bundle.tN "UNASSIGNED_STACK" Bundle.steD) && decide (w ≠ .laysStatic Bundle.tN "SUPPRESSED_SENTINEL" Bundle.listD)
def vx_at0 (own : String) (ic : Nat) (X : String) (names : List String) : List Cond := (Bundle.ownAtoms0 own ic X names).filter vx_no
def vx_atS (own : String) (ic : Nat) (X : String) (names : List String) : List Cond := (Bundle.ownAtoms own ic X names).filter vx_no
/-- a word that the tables alone decide, or a good one -/
def vx_ot (w : Cond) : Bool := w.onTables || goodWord w
theorem vx_ot_at {args a' : Array Value} {s U : State} {w : Cond} (hW : s.WarmedH U.vm) (hvm : s.vm = U.vm) (hg : vx_ot w = true) (h : w.before args s = true) : w.before a' U = true := by
  simp only [vx_ot, Bool.or_eq_true] at hg
  rcases hg with hg | hg
  · exact va_tabs hg hvm h
  · exact word_at hW (good_of_word hg) h
/-- a list's words: the good ones out of the method's own list, the others by premises of their own -/
theorem vx_hat {args : Array Value} {s : State} {L B : List Cond} (h1 : ∀ w ∈ L.filter goodWord, w.before args s = true) (h2 : ∀ w ∈ L.filter (fun w => !goodWord w), w ∈ B) (h3 : ∀ w ∈ B, w.before args s = true) : ∀ w ∈ L, w.before args s = true := by
  intro w hw
  by_cases g : goodWord w = true
  · exact h1 w (List.mem_filter.mpr ⟨hw, g⟩)
  · refine h3 w (h2 w (List.mem_filter.mpr ⟨hw, ?_⟩))
    show (!goodWord w) = true
    cases hgw : goodWord w
    · rfl
    · exact absurd hgw g
theorem vx_c {args : Array Value} {s : State} {w : Cond} {B : List Cond} (h : w.before args s = true) (t : ∀ w ∈ B, w.before args s = true) : ∀ w' ∈ w :: B, w'.before args s = true := fun w' h' => (List.mem_cons.mp h').elim (fun e => by rw [e]; exact h) (t w')
theorem vx_n {args : Array Value} {s : State} : ∀ w ∈ ([] : List Cond), w.before args s = true := fun _ h => nomatch h
theorem vx_own {args : Array Value} {s : State} {L : List Cond} (h1 : ∀ w ∈ L.filter vx_no, w.before args s = true)
    (hU : (Cond.isRef (.static Bundle.tN "UNASSIGNED_STACK" Bundle.steD)).before args s = true) (hN : (Cond.isRef (.static Bundle.tN "SUPPRESSED_SENTINEL" Bundle.listD)).before args s = true)
    (lU : (Cond.laysStatic Bundle.tN "UNASSIGNED_STACK" Bundle.steD).before args s = true) (lN : (Cond.laysStatic Bundle.tN "SUPPRESSED_SENTINEL" Bundle.listD).before args s = true) : ∀ w ∈ L, w.before args s = true := by
  intro w hw
  by_cases e1 : w = .isRef (.static Bundle.tN "UNASSIGNED_STACK" Bundle.steD)
  · rw [e1]; exact hU
  · by_cases e2 : w = .isRef (.static Bundle.tN "SUPPRESSED_SENTINEL" Bundle.listD)
    · rw [e2]; exact hN
    · by_cases e3 : w = .laysStatic Bundle.tN "UNASSIGNED_STACK" Bundle.steD
      · rw [e3]; exact lU
      · by_cases e4 : w = .laysStatic Bundle.tN "SUPPRESSED_SENTINEL" Bundle.listD
        · rw [e4]; exact lN
        · exact h1 w (List.mem_filter.mpr ⟨hw, by unfold vx_no; rw [decide_eq_true e1, decide_eq_true e2, decide_eq_true e3, decide_eq_true e4]; rfl⟩)
/-- where a static field lies, its class's statics cell in H -/
def vx_L (C n d : String) (A : Nat → Prop) (U : State) (H : Heap) : Prop := ∃ (c : ClassId) (k : Class) (i : Nat) (f : Field) (a : Nat) (cell : Cell), U.vm.findClass C = some c ∧ U.fieldFound? C n d = some (c, k, i, f) ∧ f.isStatic = true ∧ k.statics = some a ∧ H[a]? = some cell ∧ cell.vm.isStatics = true ∧ cell.cls = c ∧ f.slot < cell.slots.size ∧ k.staticTypes[f.slot]? = some f.type ∧ ¬ A a
theorem vx_L.moved {C n d : String} {A : Nat → Prop} {u U : State} {H : Heap} (hvm : u.vm.Alike U.vm) (h : vx_L C n d A u H) : vx_L C n d A U H := by
  obtain ⟨c, k, i, f, a, cell, h1, h2, h3, h4, h5, h6, h7, h8, h9, h10⟩ := h
  obtain ⟨k', hi', he⟩ := State.fieldFound?_setVm hvm h2
  exact ⟨c, k', i, f, a, cell, by rw [hvm.findClass]; exact h1, hi', h3, by rw [he]; exact h4, h5, h6, h7, h8, by rw [he]; exact h9, h10⟩
theorem vx_L.kept {C n d : String} {A : Nat → Prop} {U : State} {H H1 : Heap} (h : vx_L C n d A U H) (hq : ∀ a : Nat, a < H.size → ¬ A a → H1[a]? = H[a]?) : vx_L C n d A U H1 := by
  obtain ⟨c, k, i, f, a, cell, h1, h2, h3, h4, h5, h6, h7, h8, h9, h10⟩ := h
  exact ⟨c, k, i, f, a, cell, h1, h2, h3, h4, by rw [hq a (Array.getElem?_eq_some_iff.mp h5).1 h10]; exact h5, h6, h7, h8, h9, h10⟩
theorem vx_L.narrow {C n d : String} {A B : Nat → Prop} {U : State} {H : Heap} (h : vx_L C n d A U H) (hAB : ∀ q, B q → A q) : vx_L C n d B U H := by
  obtain ⟨c, k, i, f, a, cell, h1, h2, h3, h4, h5, h6, h7, h8, h9, h10⟩ := h
  exact ⟨c, k, i, f, a, cell, h1, h2, h3, h4, h5, h6, h7, h8, h9, fun z => h10 (hAB _ z)⟩
theorem vx_L.word {C n d : String} {A : Nat → Prop} {s : State} {args : Array Value} (h : vx_L C n d A s s.heap) : (Cond.laysStatic C n d).before args s = true := by
  obtain ⟨c, k, i, f, a, cell, h1, h2, h3, h4, h5, h6, h7, h8, h9, -⟩ := h
  show (Cond.laysStatic C n d).holds args s none s [] = true
  exact Cond.laysStatic_of h1 h2 h3 h4 h5 h6 h7 h8 h9
/-- .. and what it holds: null or some reference -/
def vx_Zq (C n d : String) (A : Nat → Prop) (U : State) (H : Heap) : Prop := va_Zq C n d A U H ∧ vx_L C n d A U H
theorem vx_Zq.moved {C n d : String} {A : Nat → Prop} {u U : State} {H : Heap} (hvm : u.vm.Alike U.vm) (h : vx_Zq C n d A u H) : vx_Zq C n d A U H := ⟨va_Zq.moved hvm h.1, vx_L.moved hvm h.2⟩
theorem vx_Zq.kept {C n d : String} {A : Nat → Prop} {U : State} {H H1 : Heap} (h : vx_Zq C n d A U H) (hq : ∀ a : Nat, a < H.size → ¬ A a → H1[a]? = H[a]?) : vx_Zq C n d A U H1 := ⟨va_Zq.kept h.1 hq, vx_L.kept h.2 hq⟩
theorem vx_Zq.narrow {C n d : String} {A B : Nat → Prop} {U : State} {H : Heap} (h : vx_Zq C n d A U H) (hAB : ∀ q, B q → A q) : vx_Zq C n d B U H := ⟨va_Zq.narrow h.1 hAB, vx_L.narrow h.2 hAB⟩
theorem vx_Zqof {args : Array Value} {s : State} {C n d : String} {A : Nat → Prop} (hl : (Cond.laysStatic C n d).before args s = true) (hini : (Cond.initialized C).before args s = true) (h : (Cond.isRef (.static C n d)).before args s = true) (hA : ∀ a : Nat, a < s.heap.size → ¬ A a) : vx_Zq C n d A s s.heap := by
  refine ⟨va_Zqof hl hini h hA, ?_⟩
  obtain ⟨c, k, i, f, a, cell, h1, h2, h3, h4, h5, h6, h7, h8, h9⟩ := Cond.laysStatic_spec hl
  exact ⟨c, k, i, f, a, cell, h1, h2, h3, h4, h5, h6, h7, h8, h9, hA a (Array.getElem?_eq_some_iff.mp h5).1⟩
theorem vx_isRef {C n d : String} {v : Value} {A : Nat → Prop} {s : State} {args : Array Value} (h : va_Z C n d v A s s.heap) (hv : v.isRef = true) : (Cond.isRef (.static C n d)).before args s = true := by
  obtain ⟨cf, kf, fi, f, a, cell, h1, h2, h3, h4, h5, h6, h7, -⟩ := h
  have he : (Term.static C n d).eval args s none [] s = some v := by
    simp [Term.eval, State.fieldNamed?, h1, h2, h4, h5, h6, h7]
  simp only [Cond.before, Cond.holds, Cond.value, he]
  cases v <;> simp_all [Value.isRef]
theorem vx_isRefq {C n d : String} {A : Nat → Prop} {s : State} {args : Array Value} (h : va_Zq C n d A s s.heap) : (Cond.isRef (.static C n d)).before args s = true := by
  rcases h with h | ⟨t, h⟩
  · exact vx_isRef h rfl
  · exact vx_isRef h rfl
/-- the same frame, seen from here: as if the method were called anew in this heap -/
theorem vx_rebase {T : State} (X : Stand p l e R s m args below meth c T locs cells slots) {R' : Room} (hf : R'.frames ≤ R.frames) (hl : R'.locals ≤ R.locals) (hc : cells + R'.cells ≤ R.cells) (hs : slots + R'.slots ≤ R.slots) :
    Stand p l e R' ((T.setVm s.vm).setFrames (.invoking m args :: below)) m args below meth c T [] 0 0 := by
  have htop : (T.setVm s.vm).topJava?.isSome := X.here.top
  have hF : ((T.setVm s.vm).setFrames (.invoking m args :: below)).frames = .invoking m args :: below := State.frames_setFrames _ (State.cur_lt_of_top htop)
  obtain ⟨g₀, hg0⟩ := Option.isSome_iff_exists.mp htop
  obtain ⟨r, hr⟩ := State.topJava?_eq_some.mp hg0
  have hl9 : e.platform.stackLimits (T.setVm s.vm).me = e.platform.stackLimits s.me := X.limits
  have hb9 : (T.setVm s.vm).me.stackBytes = s.me.stackBytes := X.bytes
  refine ⟨X.admits, X.cas, X.clock, hF, ?_, X.hears, X.method, X.code, X.here, X.tail, X.warmed, ?_, ?_, ?_⟩
  · have h := X.room
    have hU : ((T.setVm s.vm).setFrames (.invoking m args :: below)).localsInUse = s.localsInUse := by
      rw [State.localsInUse_invoking hF (meth := meth) (c := c) X.method X.code, State.localsInUse_invoking X.frames X.method X.code]
    simp only [State.hasRoom, Bool.and_eq_true, decide_eq_true_eq] at h ⊢
    obtain ⟨⟨⟨⟨h1, h2, h3, h4, h5, h6⟩, h7⟩, h8⟩, h9⟩ := h
    rw [X.frames, List.length_cons] at h2 h3
    have q1 := X.heapSize
    have q2 := X.used
    simp only [hF, hU, List.length_cons, State.stackLimits_setFrames, State.stackBytes_setFrames, hl9, hb9]
    refine ⟨⟨⟨⟨by omega, by omega, by omega, by omega, by omega, h6⟩, ?_⟩, ?_⟩, X.book⟩
    · show T.heap.size + R'.cells ≤ e.platform.maxCells
      omega
    · show T.slotsUsed + R'.slots ≤ e.platform.maxSlots
      omega
  · rw [State.stackLimits_setFrames]; rfl
  · rw [State.stackBytes_setFrames]; rfl
  · refine ⟨?_, Nat.le_refl _, Nat.le_refl _, ?_, ?_, fun a c9 h9 => ⟨c9, h9, rfl, rfl, fun _ _ => rfl⟩⟩
    · obtain ⟨t, ht, -⟩ := State.frames_cons hr
      show T.setVm s.vm = { ((T.setVm s.vm).setFrames (.invoking m args :: below)).setFrames (T.setVm s.vm).frames with heap := T.heap, slotsUsed := T.slotsUsed }
      rw [State.setFrames_setFrames, State.setFrames_self ht]
      rfl
    · show T.slotsUsed = T.slotsUsed + ((T.heap.toList.drop T.heap.size).map (·.slots.size)).sum
      rw [List.drop_eq_nil_of_le (Nat.le_of_eq Array.length_toList)]
      rfl
    · show ((T.heap.toList.drop T.heap.size).map (·.slots.size)).sum ≤ 0
      rw [List.drop_eq_nil_of_le (Nat.le_of_eq Array.length_toList)]
      exact Nat.le_refl _
/-- 'throw new E()': new; dup; invokespecial; athrow -/
theorem vx_throw0 {cc : ByteArray} {pc : Nat} (hexec : p.tables.exec = Jvm.exec) (hb : c.code = cc) (hl : l.stackTraces = false) {own cls : String} {names : List String} {ik ic mc ms : Nat} {A : Nat → Prop}
    (hown : s.vm.findClass own = some m.cls) (hcls : Bundle.fit cls = true) (hnames : ∀ n ∈ names, Bundle.fit n = true)
    (hk : (Cond.classLink own ik cls).before args s = true) (hini : (Cond.initialized cls).before args s = true) (hat : ∀ w ∈ vx_at0 own ic cls names, w.before args s = true)
    (hgood : ∀ w ∈ Cond.classLink own ik cls :: Cond.initialized cls :: vx_at0 own ic cls names, vx_ot w = true)
    (hU : vx_Zq Bundle.tN "UNASSIGNED_STACK" Bundle.steD A s s.heap) (hN : vx_Zq Bundle.tN "SUPPRESSED_SENTINEL" Bundle.listD A s s.heap) (hS : va_S A s.heap H locs) (hsize : ls.size = c.maxLocals)
    (d0 : decode cc pc = .ok (.new ik, 3)) (d3 : decode cc (pc + 3) = .ok (.dup, 1)) (d4 : decode cc (pc + 4) = .ok (.invokespecial ic, 3)) (d7 : decode cc (pc + 7) = .ok (.athrow, 1))
    (hout : ∀ x ∈ c.exceptionTable.toList, covers x (pc + 7) = false)
    (hRframes : names.length + 3 < R.frames) (hRlocals : (rest.map fun v => v.category).sum + (13 * (names.length + 1) + 42) ≤ R.locals) (hRcells : cells + 1 ≤ R.cells) (hRslots : slots + 6 ≤ R.slots) (hlocks : meth.locks = false)
    (hx : ∀ t : State, s.vm.Alike t.vm → H.size ≤ t.heap.size → (∀ q : Nat, q < H.size → t.heap[q]? = H[q]?) → XC cls s t)
    (hf : ∀ z ∈ locs, free z.base) (hc : cells + 1 ≤ mc) (hs : slots + 6 ≤ ms) :
    W p l e R s m args below meth c H locs cells slots (vx_MQ below Qc XC args s mc ms free) (F0 m pc ls rest) := by
  intro T hT X
  have htr : e.platform.stackTraces = false := (show e.platform.stackTraces = l.stackTraces by rw [X.admits.platform]).trans hl
  have Y := vx_rebase X (R' := { frames := R.frames, locals := R.locals, cells := 1, slots := 6 }) (Nat.le_refl _) (Nat.le_refl _) hRcells hRslots
  obtain ⟨s', hA⟩ : ∃ z, z = (T.setVm s.vm).setFrames (.invoking m args :: below) := ⟨_, rfl⟩
  rw [← hA] at Y
  have hvm : s'.vm = s.vm := by rw [hA]; rfl
  have hhp : s'.heap = H := by rw [hA]; exact hT
  have hW0 : s.WarmedH s'.vm := by rw [hvm]; exact State.WarmedH.refl s
  have hat' : ∀ w ∈ vx_at0 own ic cls names, w.before args s' = true := fun w hw => vx_ot_at hW0 hvm.symm (hgood w (List.mem_cons_of_mem _ (List.mem_cons_of_mem _ hw))) (hat w hw)
  have hk' : (Cond.classLink own ik cls).before args s' = true := vx_ot_at hW0 hvm.symm (hgood _ List.mem_cons_self) hk
  have hini' : (Cond.initialized cls).before args s' = true := vx_ot_at hW0 hvm.symm (hgood _ (List.mem_cons_of_mem _ List.mem_cons_self)) hini
  have hU' : vx_Zq Bundle.tN "UNASSIGNED_STACK" Bundle.steD A s' s'.heap := by rw [hhp]; exact vx_Zq.moved hW0.alike (hU.kept hS.2.1)
  have hN' : vx_Zq Bundle.tN "SUPPRESSED_SENTINEL" Bundle.listD A s' s'.heap := by rw [hhp]; exact vx_Zq.moved hW0.alike (hN.kept hS.2.1)
  have h : ∀ w ∈ Bundle.ownAtoms0 own ic cls names, w.before args s' = true := vx_own hat' (vx_isRefq hU'.1) (vx_isRefq hN'.1) hU'.2.word hN'.2.word
  have hown' : s'.vm.findClass own = some m.cls := by rw [hvm]; exact hown
  have hins : (Cond.instantiable cls 6).before args s' = true := h _ (by simp [Bundle.ownAtoms0])
  obtain ⟨vm₁, cX, kX, hfX, hkX, -, -, X₁, st1⟩ := Y.newCold hexec (own := own) (C := cls) (index := ik) (n := 6) hown' hk' hins hini'
    (g := F0 m pc ls rest) rfl (by rw [hb]; exact d0) (Nat.le_refl _) (Nat.le_refl _)
  generalize hT1 : (T.setVm vm₁).pushCell { cls := cX, slots := kX.instanceTypes.map defaultValue, vm := .none } = T1 at X₁ st1
  have hcat : (Value.ref T.heap.size).category = 1 := rfl
  have hcellA : T1.heap[T.heap.size]? = some (freshCell cX kX) := by rw [← hT1]; exact State.heap_pushCell_size _ _
  have d3' : decode c.code (pc + 3) = .ok (.dup, 1) := by rw [hb]; exact d3
  obtain ⟨U, hsteps, hrun, hend, hW, hsame, ce, hce, hO⟩ := X₁.ctorThrow0 hexec htr (own := own) (cls := cls) (names := names) (ic := ic) hown' hcls hnames h (fun x hx => nomatch hx) hfX hkX hcellA (by rw [hhp, hT]; exact Nat.le_refl _)
    (g := { method := m, pc := pc + 4, locals := ls, stack := .ref T.heap.size :: .ref T.heap.size :: rest, locked := none }) rfl hsize rfl rfl (rest := rest) rfl
    (by rw [hb]; exact d4) (by rw [hb]; exact d7) hout hRframes (by simp only [List.map_cons, List.sum_cons, hcat]; omega) hlocks
  obtain ⟨f1, f2⟩ := vx_frame hsame
  rw [hhp] at f1 f2
  have hWs : s.WarmedH U.vm := State.WarmedH.trans hW0 hW
  have hcl : s.vm.findClass cls = some ce.cls := by
    have h9 := hO.cls
    rw [hvm] at h9
    exact h9
  have hall : s.sameButNew ({ U with vm := s.vm } : State) locs mc ms := by
    subst hA
    obtain ⟨e1, e2⟩ := hsame
    rw [State.setFrames_setFrames] at e1
    have h2 : (T.setVm s.vm).sameButNew ({ U with vm := s.vm } : State) [] (0 + 1) (0 + 6) := ⟨e1, e2⟩
    have h3 := X.same.trans h2
    rw [List.append_nil] at h3
    exact h3.mono hc hs
  refine ⟨U, ?_, .threw T.heap.size, hrun, hend, Or.inr ⟨T.heap.size, rfl, cls, ce, locs, hx U hWs.alike f1 (fun q hq => f2 q hq (fun z hz => nomatch hz)), hce, hO.vm, hcl, hWs, hall, hf⟩⟩
  refine st1 _ ?_
  show Steps p.tables e below (T1.setTop { method := m, pc := pc + 3, locals := ls, stack := .ref T.heap.size :: rest, locked := none }) _
  jvm_step X₁.here [X₁.here.top, hexec, d3', Value.category]
  exact hsteps
/-- 'throw new E("text")': new; dup; ldc; invokespecial; athrow -/
theorem vx_throwS {cc : ByteArray} {pc : Nat} (hexec : p.tables.exec = Jvm.exec) (hb : c.code = cc) (hl : l.stackTraces = false) {own cls text : String} {names : List String} {ik is ic mc ms sa : Nat} {A : Nat → Prop}
    (hown : s.vm.findClass own = some m.cls) (hcls : Bundle.fit cls = true) (hnames : ∀ n ∈ names, Bundle.fit n = true)
    (hk : (Cond.classLink own ik cls).before args s = true) (hini : (Cond.initialized cls).before args s = true) (hstr : vk_R own is text sa s) (hat : ∀ w ∈ vx_atS own ic cls names, w.before args s = true)
    (hgood : ∀ w ∈ Cond.classLink own ik cls :: Cond.initialized cls :: vx_atS own ic cls names, vx_ot w = true)
    (hU : vx_Zq Bundle.tN "UNASSIGNED_STACK" Bundle.steD A s s.heap) (hN : vx_Zq Bundle.tN "SUPPRESSED_SENTINEL" Bundle.listD A s s.heap) (hS : va_S A s.heap H locs) (hsize : ls.size = c.maxLocals)
    (d0 : decode cc pc = .ok (.new ik, 3)) (d3 : decode cc (pc + 3) = .ok (.dup, 1)) (d4 : decode cc (pc + 4) = .ok (.ldc is, 2)) (d6 : decode cc (pc + 6) = .ok (.invokespecial ic, 3)) (d9 : decode cc (pc + 9) = .ok (.athrow, 1))
    (hout : ∀ x ∈ c.exceptionTable.toList, covers x (pc + 9) = false)
    (hRframes : names.length + 3 < R.frames) (hRlocals : (rest.map fun v => v.category).sum + (13 * (names.length + 1) + 43) ≤ R.locals) (hRcells : cells + 1 ≤ R.cells) (hRslots : slots + 6 ≤ R.slots) (hlocks : meth.locks = false)
    (hx : ∀ t : State, s.vm.Alike t.vm → H.size ≤ t.heap.size → (∀ q : Nat, q < H.size → t.heap[q]? = H[q]?) → XC cls s t)
    (hf : ∀ z ∈ locs, free z.base) (hc : cells + 1 ≤ mc) (hs : slots + 6 ≤ ms) :
    W p l e R s m args below meth c H locs cells slots (vx_MQ below Qc XC args s mc ms free) (F0 m pc ls rest) := by
  intro T hT X
  have htr : e.platform.stackTraces = false := (show e.platform.stackTraces = l.stackTraces by rw [X.admits.platform]).trans hl
  have Y := vx_rebase X (R' := { frames := R.frames, locals := R.locals, cells := 1, slots := 6 }) (Nat.le_refl _) (Nat.le_refl _) hRcells hRslots
  obtain ⟨s', hA⟩ : ∃ z, z = (T.setVm s.vm).setFrames (.invoking m args :: below) := ⟨_, rfl⟩
  rw [← hA] at Y
  have hvm : s'.vm = s.vm := by rw [hA]; rfl
  have hhp : s'.heap = H := by rw [hA]; exact hT
  have hW0 : s.WarmedH s'.vm := by rw [hvm]; exact State.WarmedH.refl s
  have hat' : ∀ w ∈ vx_atS own ic cls names, w.before args s' = true := fun w hw => vx_ot_at hW0 hvm.symm (hgood w (List.mem_cons_of_mem _ (List.mem_cons_of_mem _ hw))) (hat w hw)
  have hk' : (Cond.classLink own ik cls).before args s' = true := vx_ot_at hW0 hvm.symm (hgood _ List.mem_cons_self) hk
  have hini' : (Cond.initialized cls).before args s' = true := vx_ot_at hW0 hvm.symm (hgood _ (List.mem_cons_of_mem _ List.mem_cons_self)) hini
  have hU' : vx_Zq Bundle.tN "UNASSIGNED_STACK" Bundle.steD A s' s'.heap := by rw [hhp]; exact vx_Zq.moved hW0.alike (hU.kept hS.2.1)
  have hN' : vx_Zq Bundle.tN "SUPPRESSED_SENTINEL" Bundle.listD A s' s'.heap := by rw [hhp]; exact vx_Zq.moved hW0.alike (hN.kept hS.2.1)
  have h : ∀ w ∈ Bundle.ownAtoms own ic cls names, w.before args s' = true := vx_own hat' (vx_isRefq hU'.1) (vx_isRefq hN'.1) hU'.2.word hN'.2.word
  have hown' : s'.vm.findClass own = some m.cls := by rw [hvm]; exact hown
  have hins : (Cond.instantiable cls 6).before args s' = true := h _ (by simp [Bundle.ownAtoms])
  obtain ⟨vm₁, cX, kX, hfX, hkX, -, -, X₁, st1⟩ := Y.newCold hexec (own := own) (C := cls) (index := ik) (n := 6) hown' hk' hins hini'
    (g := F0 m pc ls rest) rfl (by rw [hb]; exact d0) (Nat.le_refl _) (Nat.le_refl _)
  generalize hT1 : (T.setVm vm₁).pushCell { cls := cX, slots := kX.instanceTypes.map defaultValue, vm := .none } = T1 at X₁ st1
  have hcat : (Value.ref T.heap.size).category = 1 := rfl
  have hcellA : T1.heap[T.heap.size]? = some (freshCell cX kX) := by rw [← hT1]; exact State.heap_pushCell_size _ _
  have d3' : decode c.code (pc + 3) = .ok (.dup, 1) := by rw [hb]; exact d3
  have d4' : decode c.code (pc + 4) = .ok (.ldc is, 2) := by rw [hb]; exact d4
  have hstr' : vk_R own is text sa s' := vk_R.warm hW0 hstr
  obtain ⟨U, hsteps, hrun, hend, hW, hsame, ce, hce, hO⟩ := X₁.ctorThrowS hexec htr (own := own) (cls := cls) (names := names) (ic := ic) hown' hcls hnames h (fun x hx => nomatch hx) hfX hkX hcellA (by rw [hhp, hT]; exact Nat.le_refl _) (msg := .ref sa) rfl
    (g := { method := m, pc := pc + 6, locals := ls, stack := .ref sa :: .ref T.heap.size :: .ref T.heap.size :: rest, locked := none }) rfl hsize rfl rfl (rest := rest) rfl
    (by rw [hb]; exact d6) (by rw [hb]; exact d9) hout hRframes (by simp only [List.map_cons, List.sum_cons, hcat]; omega) hlocks
  obtain ⟨f1, f2⟩ := vx_frame hsame
  rw [hhp] at f1 f2
  have hWs : s.WarmedH U.vm := State.WarmedH.trans hW0 hW
  have hcl : s.vm.findClass cls = some ce.cls := by
    have h9 := hO.cls
    rw [hvm] at h9
    exact h9
  have hall : s.sameButNew ({ U with vm := s.vm } : State) locs mc ms := by
    subst hA
    obtain ⟨e1, e2⟩ := hsame
    rw [State.setFrames_setFrames] at e1
    have h2 : (T.setVm s.vm).sameButNew ({ U with vm := s.vm } : State) [] (0 + 1) (0 + 6) := ⟨e1, e2⟩
    have h3 := X.same.trans h2
    rw [List.append_nil] at h3
    exact h3.mono hc hs
  refine ⟨U, ?_, .threw T.heap.size, hrun, hend, Or.inr ⟨T.heap.size, rfl, cls, ce, locs, hx U hWs.alike f1 (fun q hq => f2 q hq (fun z hz => nomatch hz)), hce, hO.vm, hcl, hWs, hall, hf⟩⟩
  refine st1 _ ?_
  show Steps p.tables e below (T1.setTop { method := m, pc := pc + 3, locals := ls, stack := .ref T.heap.size :: rest, locked := none }) _
  jvm_step X₁.here [X₁.here.top, hexec, d3', Value.category]
  exact X₁.ldcString hexec (own := own) (text := text) (index := is) (a := sa) hown' hstr'.1 hstr'.2
    (g := { method := m, pc := pc + 4, locals := ls, stack := .ref T.heap.size :: .ref T.heap.size :: rest, locked := none }) rfl d4' _ hsteps
/-- 'throw new E("text")', the text by a wide index -/
theorem vx_throwSW {cc : ByteArray} {pc : Nat} (hexec : p.tables.exec = Jvm.exec) (hb : c.code = cc) (hl : l.stackTraces = false) {own cls text : String} {names : List String} {ik is ic mc ms sa : Nat} {A : Nat → Prop}
    (hown : s.vm.findClass own = some m.cls) (hcls : Bundle.fit cls = true) (hnames : ∀ n ∈ names, Bundle.fit n = true)
    (hk : (Cond.classLink own ik cls).before args s = true) (hini : (Cond.initialized cls).before args s = true) (hstr : vk_R own is text sa s) (hat : ∀ w ∈ vx_atS own ic cls names, w.before args s = true)
    (hgood : ∀ w ∈ Cond.classLink own ik cls :: Cond.initialized cls :: vx_atS own ic cls names, vx_ot w = true)
    (hU : vx_Zq Bundle.tN "UNASSIGNED_STACK" Bundle.steD A s s.heap) (hN : vx_Zq Bundle.tN "SUPPRESSED_SENTINEL" Bundle.listD A s s.heap) (hS : va_S A s.heap H locs) (hsize : ls.size = c.maxLocals)
    (d0 : decode cc pc = .ok (.new ik, 3)) (d3 : decode cc (pc + 3) = .ok (.dup, 1)) (d4 : decode cc (pc + 4) = .ok (.ldc_w is, 3)) (d7 : decode cc (pc + 7) = .ok (.invokespecial ic, 3)) (d10 : decode cc (pc + 10) = .ok (.athrow, 1))
    (hout : ∀ x ∈ c.exceptionTable.toList, covers x (pc + 10) = false)
    (hRframes : names.length + 3 < R.frames) (hRlocals : (rest.map fun v => v.category).sum + (13 * (names.length + 1) + 43) ≤ R.locals) (hRcells : cells + 1 ≤ R.cells) (hRslots : slots + 6 ≤ R.slots) (hlocks : meth.locks = false)
    (hx : ∀ t : State, s.vm.Alike t.vm → H.size ≤ t.heap.size → (∀ q : Nat, q < H.size → t.heap[q]? = H[q]?) → XC cls s t)
    (hf : ∀ z ∈ locs, free z.base) (hc : cells + 1 ≤ mc) (hs : slots + 6 ≤ ms) :
    W p l e R s m args below meth c H locs cells slots (vx_MQ below Qc XC args s mc ms free) (F0 m pc ls rest) := by
  intro T hT X
  have htr : e.platform.stackTraces = false := (show e.platform.stackTraces = l.stackTraces by rw [X.admits.platform]).trans hl
  have Y := vx_rebase X (R' := { frames := R.frames, locals := R.locals, cells := 1, slots := 6 }) (Nat.le_refl _) (Nat.le_refl _) hRcells hRslots
  obtain ⟨s', hA⟩ : ∃ z, z = (T.setVm s.vm).setFrames (.invoking m args :: below) := ⟨_, rfl⟩
  rw [← hA] at Y
  have hvm : s'.vm = s.vm := by rw [hA]; rfl
  have hhp : s'.heap = H := by rw [hA]; exact hT
  have hW0 : s.WarmedH s'.vm := by rw [hvm]; exact State.WarmedH.refl s
  have hat' : ∀ w ∈ vx_atS own ic cls names, w.before args s' = true := fun w hw => vx_ot_at hW0 hvm.symm (hgood w (List.mem_cons_of_mem _ (List.mem_cons_of_mem _ hw))) (hat w hw)
  have hk' : (Cond.classLink own ik cls).before args s' = true := vx_ot_at hW0 hvm.symm (hgood _ List.mem_cons_self) hk
  have hini' : (Cond.initialized cls).before args s' = true := vx_ot_at hW0 hvm.symm (hgood _ (List.mem_cons_of_mem _ List.mem_cons_self)) hini
  have hU' : vx_Zq Bundle.tN "UNASSIGNED_STACK" Bundle.steD A s' s'.heap := by rw [hhp]; exact vx_Zq.moved hW0.alike (hU.kept hS.2.1)
  have hN' : vx_Zq Bundle.tN "SUPPRESSED_SENTINEL" Bundle.listD A s' s'.heap := by rw [hhp]; exact vx_Zq.moved hW0.alike (hN.kept hS.2.1)
  have h : ∀ w ∈ Bundle.ownAtoms own ic cls names, w.before args s' = true := vx_own hat' (vx_isRefq hU'.1) (vx_isRefq hN'.1) hU'.2.word hN'.2.word
  have hown' : s'.vm.findClass own = some m.cls := by rw [hvm]; exact hown
  have hins : (Cond.instantiable cls 6).before args s' = true := h _ (by simp [Bundle.ownAtoms])
  obtain ⟨vm₁, cX, kX, hfX, hkX, -, -, X₁, st1⟩ := Y.newCold hexec (own := own) (C := cls) (index := ik) (n := 6) hown' hk' hins hini'
    (g := F0 m pc ls rest) rfl (by rw [hb]; exact d0) (Nat.le_refl _) (Nat.le_refl _)
  generalize hT1 : (T.setVm vm₁).pushCell { cls := cX, slots := kX.instanceTypes.map defaultValue, vm := .none } = T1 at X₁ st1
  have hcat : (Value.ref T.heap.size).category = 1 := rfl
  have hcellA : T1.heap[T.heap.size]? = some (freshCell cX kX) := by rw [← hT1]; exact State.heap_pushCell_size _ _
  have d3' : decode c.code (pc + 3) = .ok (.dup, 1) := by rw [hb]; exact d3
  have d4' : decode c.code (pc + 4) = .ok (.ldc_w is, 3) := by rw [hb]; exact d4
  have hstr' : vk_R own is text sa s' := vk_R.warm hW0 hstr
  obtain ⟨U, hsteps, hrun, hend, hW, hsame, ce, hce, hO⟩ := X₁.ctorThrowS hexec htr (own := own) (cls := cls) (names := names) (ic := ic) hown' hcls hnames h (fun x hx => nomatch hx) hfX hkX hcellA (by rw [hhp, hT]; exact Nat.le_refl _) (msg := .ref sa) rfl
    (g := { method := m, pc := pc + 7, locals := ls, stack := .ref sa :: .ref T.heap.size :: .ref T.heap.size :: rest, locked := none }) rfl hsize rfl rfl (rest := rest) rfl
    (by rw [hb]; exact d7) (by rw [hb]; exact d10) hout hRframes (by simp only [List.map_cons, List.sum_cons, hcat]; omega) hlocks
  obtain ⟨f1, f2⟩ := vx_frame hsame
  rw [hhp] at f1 f2
  have hWs : s.WarmedH U.vm := State.WarmedH.trans hW0 hW
  have hcl : s.vm.findClass cls = some ce.cls := by
    have h9 := hO.cls
    rw [hvm] at h9
    exact h9
  have hall : s.sameButNew ({ U with vm := s.vm } : State) locs mc ms := by
    subst hA
    obtain ⟨e1, e2⟩ := hsame
    rw [State.setFrames_setFrames] at e1
    have h2 : (T.setVm s.vm).sameButNew ({ U with vm := s.vm } : State) [] (0 + 1) (0 + 6) := ⟨e1, e2⟩
    have h3 := X.same.trans h2
    rw [List.append_nil] at h3
    exact h3.mono hc hs
  refine ⟨U, ?_, .threw T.heap.size, hrun, hend, Or.inr ⟨T.heap.size, rfl, cls, ce, locs, hx U hWs.alike f1 (fun q hq => f2 q hq (fun z hz => nomatch hz)), hce, hO.vm, hcl, hWs, hall, hf⟩⟩
  refine st1 _ ?_
  show Steps p.tables e below (T1.setTop { method := m, pc := pc + 3, locals := ls, stack := .ref T.heap.size :: rest, locked := none }) _
  jvm_step X₁.here [X₁.here.top, hexec, d3', Value.category]
  exact X₁.ldcStringW hexec (own := own) (text := text) (index := is) (a := sa) hown' hstr'.1 hstr'.2
    (g := { method := m, pc := pc + 4, locals := ls, stack := .ref T.heap.size :: .ref T.heap.size :: rest, locked := none }) rfl d4' _ hsteps
end Ends
section Bodies
variable {l : Launch}
theorem vx_ofW {y : MethodName} {ws ws' : List Cond} {rm : Room} {Pc : Array Value → State → Prop} {Qc : Array Value → State → Outcome → State → Prop} {XC : String → State → State → Prop} {mc ms : Nat} {free : Addr → Prop} {cc : ByteArray} {maxL : Nat} {ret : Option FieldType}
    (hy : plainName y.cls = true) (hw : ws = Cond.code y cc maxL ret :: ws')
    (body : ∀ p e s m args below meth c s₁, BodyLoose p l y (headSpec ws rm) cc maxL ret e s m args below meth c s₁ → c.maxLocals = maxL → (∀ x ∈ c.exceptionTable.toList, False) → Pc args s →
      W p l e (headSpec ws rm).room s m args below meth c s.heap [] 0 0 (vx_MQ below Qc XC args s mc ms free) (entryFrame m args maxL)) : vx_Met l y ws rm Pc Qc XC mc ms free := by
  refine MetFree.of_bodyS (code := cc) (maxLocals := maxL) (ret := ret) hy ?_ ?_
  · intro args s m h hn
    obtain ⟨meth, c, h1, h2, h3, h4, h5, h6, -, -⟩ := Cond.code_spec hn (atoms_spec (ws := ws) h _ (by rw [hw]; exact List.mem_cons_self))
    exact ⟨meth, c, h1, h2, h3, h4, h5, h6⟩
  · intro p e s m args below meth c s₁ B hml hP _
    have hh0 : s₁.heap = s.heap := by rw [B.state]; rfl
    have ht : ∀ x ∈ c.exceptionTable.toList, False := by
      obtain ⟨meth9, c9, h1, h2, -, -, -, -, h7, -⟩ := Cond.code_spec B.named (atoms_spec (ws := ws) B.pre _ (by rw [hw]; exact List.mem_cons_self))
      cases Option.some.inj (h1.symm.trans B.method)
      cases Option.some.inj (h2.symm.trans (Stand.of_body B).code)
      intro x hx
      rw [Array.isEmpty_iff.mp h7] at hx
      cases hx
    obtain ⟨t, a1, o, b1, b2, b3⟩ := body p e s m args below meth c s₁ B hml ht hP s₁ hh0 (Stand.of_body B)
    exact ⟨t, o, a1, b1, b2, b3⟩
/-- the table of a body with handlers -/
theorem vx_table {p : Program} {x y : MethodName} {S : Spec} {cc bytes : ByteArray} {maxL maxL' : Nat} {ret ret' : Option FieldType} {e : Env} {s s₁ : State} {m : MethodId} {args : Array Value} {below : List Frame} {meth : Method} {c : Code} {hh : List (Nat × Nat × Nat × Nat)}
    (B : BodyLoose p l y S cc maxL ret e s m args below meth c s₁) (h : (Cond.codeWith y bytes maxL' ret' hh).before args s = true) : c.exceptionTable.toList = tableOf hh := by
  obtain ⟨m9, meth9, c9, hn9, h1, h2, -, -, h6, -⟩ := Cond.codeWith_spec h
  cases Option.some.inj (hn9.symm.trans B.named)
  cases Option.some.inj (h1.symm.trans B.method)
  cases Option.some.inj (h2.symm.trans (Stand.of_body B).code)
  rw [← h6, table_eq]
end Bodies
end VXA
/-! ===== END ===== -/
/-! ===== BEGIN a static call of a method with an exception table ===== -/
section VXS
variable {p : Program} {l : Launch} {e : Env} {R : Room} {s : State} {m : MethodId} {args : Array Value} {below : List Frame} {meth : Method} {c : Code} {T : State} {H : Heap} {locs : List Loc} {cells slots : Nat}
abbrev vx_CSW (R : Room) (s : State) (args : Array Value) (own : String) (index : Nat) (y : MethodName) (bytes : ByteArray) (maxL : Nat) (ret : Option FieldType) (hh : List (Nat × Nat × Nat × Nat)) (ws : List Cond) (rm : Room) (mc ms n : Nat) : Prop :=
  (rm.cells = mc ∧ rm.slots = ms ∧ rm.frames + 1 ≤ R.frames ∧ 8 + (maxL + 11) + rm.locals ≤ R.locals ∧ (∀ w ∈ ws, ∀ (a' : Array Value) (U : State), s.WarmedH U.vm → w.before a' U = true) ∧ Cond.codeWith y bytes maxL ret hh ∈ ws) ∧
  (Cond.codeWith y bytes maxL ret hh).before args s = true ∧ (Cond.initialized y.cls).before args s = true ∧ (y.cls ≠ "java/lang/invoke/MethodHandle" ∧ y.cls ≠ "java/lang/invoke/VarHandle") ∧
  (∀ sig, parseMethodDescriptor y.desc = some sig → n = sig.parameters.length) ∧ (Cond.methodLink own index y).before args s = true ∧ (Cond.static y).before args s = true
theorem vx_cwSW {own : String} {index maxL mc ms : Nat} {y : MethodName} {bytes : ByteArray} {ret : Option FieldType} {hh : List (Nat × Nat × Nat × Nat)} {Ts ws ws' : List Cond} {rm : Room} (n : Nat) (ht : ∀ w ∈ Ts, w.before args s = true) (hT : GoodIn Ts (va_wsS own index y ws)) (hw : ws = Cond.codeWith y bytes maxL ret hh :: ws') (hrc : rm.cells = mc) (hrs : rm.slots = ms)
    (hd : y.cls ≠ "java/lang/invoke/MethodHandle" ∧ y.cls ≠ "java/lang/invoke/VarHandle" ∧ (parseMethodDescriptor y.desc).map (fun d => d.parameters.length) = some n) (hR : rm.frames + 1 ≤ R.frames ∧ 8 + (maxL + 11) + rm.locals ≤ R.locals) :
    vx_CSW R s args own index y bytes maxL ret hh ws rm mc ms n := by
  have ok : ∀ w ∈ va_wsS own index y ws, w.before args s = true := fun w h => ht w (hT w h).1
  have hG : GoodIn Ts ws := fun w h => hT w (by unfold va_wsS; exact List.mem_append_right _ h)
  have hc : Cond.codeWith y bytes maxL ret hh ∈ ws := by rw [hw]; exact List.mem_cons_self
  refine ⟨⟨hrc, hrs, hR.1, hR.2, pay_in ht hG, hc⟩, ht _ (hG _ hc).1, ok _ (by simp [va_wsS]), ⟨hd.1, hd.2.1⟩, fun sig h => ?_, ok _ (by simp [va_wsS]), ok _ (by simp [va_wsS])⟩
  have h2 := hd.2.2
  rw [h] at h2
  exact (Option.some.inj h2).symm
theorem vx_callSW (X : Stand p l e R s m args below meth c T locs cells slots) (hexec : p.tables.exec = Jvm.exec) {own : String} {index : Nat} {y : MethodName} {bytes : ByteArray} {maxL : Nat} {ret : Option FieldType} {hh : List (Nat × Nat × Nat × Nat)}
    (hown : s.vm.findClass own = some m.cls) (hlink : (Cond.methodLink own index y).before args s = true) (hstat : (Cond.static y).before args s = true) (hinit : (Cond.initialized y.cls).before args s = true)
    (hcode : (Cond.codeWith y bytes maxL ret hh).before args s = true) (hy : y.cls ≠ "java/lang/invoke/MethodHandle" ∧ y.cls ≠ "java/lang/invoke/VarHandle")
    {W9 : Nat} {Pre : Pt → Array Value → Prop} {Post : Pt → Array Value → Option Value → Pt → Prop} (hK : Back l R p e below s args y 3 W9 Pre Post)
    {g : JFrame} (hg : g.method = m) (hsize : g.locals.size = c.maxLocals) {argsL rest : List Value} (hlen : ∀ sig, parseMethodDescriptor y.desc = some sig → argsL.length = sig.parameters.length)
    (hstack : g.stack = argsL.reverse ++ rest) (hW : 2 * g.monitorRoom + (rest.map fun v => v.category).sum ≤ W9) (hdg : decode c.code g.pc = .ok (.invokestatic index, 3))
    (hpre : ∀ vm₁, s.WarmedH vm₁ → Pre ⟨T.setVm vm₁, locs, cells, slots⟩ argsL.toArray) :
    ∃ (v : Option Value) (vm₁ : Vm) (B : Pt), s.WarmedH vm₁ ∧ Stand p l e R s m args below meth c B.U B.locs B.cells B.slots ∧ Post ⟨T.setVm vm₁, locs, cells, slots⟩ argsL.toArray v B ∧
      ∀ target, Steps p.tables e below (B.U.setTop { g with pc := g.pc + 3, stack := v.toList ++ rest }) target → Steps p.tables e below (T.setTop g) target := by
  obtain ⟨mk, methM, cM, hnamed, hmethM, -, -, -, -, -, -, hsigM⟩ := Cond.codeWith_spec hcode
  have hstatic : methM.isStatic = true := Cond.static_spec hnamed hmethM hstat
  obtain ⟨kP, hkP, -⟩ := className_of_methodNamed hnamed
  have hinitP : kP.init = .initialized := Cond.initialized_spec (findClass_of_methodNamed hnamed) hkP hinit
  obtain ⟨vm₁, X₁, hstep₁⟩ := X.invokestatic hexec hown hlink hnamed hmethM hstatic hkP hinitP hy (g := g) hg (argsL := argsL) (rest := rest) (hlen _ hsigM) hstack hdg
  obtain ⟨v, B, X', hpost, hsteps⟩ := hK m meth c ⟨T.setVm vm₁, locs, cells, slots⟩ { g with stack := rest } (.invokestatic index) mk argsL.toArray X₁ hg hsize hdg hW (X₁.named hnamed) (hpre vm₁ X₁.warmed)
  exact ⟨v, vm₁, B, X₁.warmed, X', hpost, fun target h => hstep₁ _ fun acts => by rw [doInvoke_state]; exact hsteps.trans h⟩
theorem vx_runSW {y : MethodName} {bytes cc : ByteArray} {maxL nL mc ms n index : Nat} {ret : Option FieldType} {hh : List (Nat × Nat × Nat × Nat)} {ws : List Cond} {rm : Room} {Pc : Array Value → State → Prop} {Qc : Array Value → State → Outcome → State → Prop} {free : Addr → Prop} {Ts : List Cond} {own : String} {As rest : List Value} {g : JFrame}
    (S : CallFix p m c cc nL s args Ts own) (hM : Met l y ws rm Pc Qc mc ms free) (cw : vx_CSW R s args own index y bytes maxL ret hh ws rm mc ms n) (hp : PreS s H Pc As)
    (hg : g.method = m) (hn : As.length = n) (hsize : g.locals.size = nL) (hstack : g.stack = As.reverse ++ rest) (hW : 2 * g.monitorRoom + (rest.map fun v => v.category).sum ≤ 8) (hdg : decode cc g.pc = .ok (.invokestatic index, 3)) (hf : cells + mc ≤ R.cells ∧ slots + ms ≤ R.slots) :
    va_Run p l e R s m args below meth c H locs cells slots mc ms g rest (Qc As.toArray) (free) := by
  obtain ⟨⟨hrc, hrs, hfr, hlo, hws, hcw⟩, hcode, hini, hy, hlen, hl, hstt⟩ := cw
  have hK : Back l R p e below s args y 3 8 (PreOf R mc ms Pc) (PostOf Qc mc ms free) := va_backW (hh := hh) (bytes := bytes) (maxL := maxL) (ret := ret) hM hp.1 hrc hrs hfr hlo hws hcw (fun a' U hW => word_at hW (Or.inl (by first | rfl | simp [Cond.onTables, Cond.keeps, Cond.steady])) hini)
  obtain ⟨hx, hb, hml, ho, -⟩ := S
  intro T hT X
  obtain ⟨v, vm₁, ⟨U', l2, c2, s2⟩, hW₁, X', ⟨g', mk, t, L, e1, e2, hq, h1, hL, h2, h3⟩, st⟩ := vx_callSW X hx (hh := hh) (bytes := bytes) (maxL := maxL) (ret := ret) ho hl hstt hini hcode hy hK hg (hsize.trans hml.symm) (argsL := As) (rest := rest) (fun sig h => hn.trans (hlen sig h)) hstack hW (by rw [hb]; exact hdg)
    (fun vm₁ hW₁ => ⟨hf.1, hf.2, hp.2 (T.setVm vm₁) hT hW₁⟩)
  dsimp only [Pt.U, Pt.locs, Pt.cells, Pt.slots] at X' e1 e2 h1 h2 h3 st
  subst h1; subst h2; subst h3
  exact ⟨v, (T.setVm vm₁).calling g' mk As.toArray, t, U', L, hT, X', hL, e1, e2, hq, st⟩
/-- a thing of a world lies in the heap -/
theorem vx_lt {D : va_G} {cl : List vw_C} {ws : va_W} {H1 : Heap} (h : va_P D cl ws H1) {k : Nat} {q : Nat × va_E} (hk : ws[k]? = some q) : q.1 < H1.size := (h k q hk).lt
end VXS
/-! ===== END ===== -/
/-! ===== BEGIN methods with a table of their own: called by a name, returning or throwing ===== -/
section VXH
/-! vx_backW, vx_callVX, vx_callSX, vx_callVW, vx_runVW, vx_runVX, vx_runSX, vx_ofWH follow the same proofs as their sisters above (Free/Laws.lean, Shelf42/LK1.lean); vx_outP calls Shelf42/NT130.lean (outThrough). -/
section
variable {l : Launch} {R : Room} {p : Program} {e : Env} {below : List Frame} {s : State} {sargs : Array Value} {y : MethodName} {len W9 : Nat}
theorem vx_backW {ws : List Cond} {rm : Room} {Pc : Array Value → State → Prop} {Qc : Array Value → State → Outcome → State → Prop} {XC : String → State → State → Prop} {mc ms : Nat} {free : Addr → Prop} {bytes : ByteArray} {maxL : Nat} {ret : Option FieldType} {hh : List (Nat × Nat × Nat × Nat)}
    (hM : vx_Met l y ws rm Pc Qc XC mc ms free) (hblind : FrameBlind Pc) (hrc : rm.cells = mc) (hrs : rm.slots = ms)
    (hframes : rm.frames + 1 ≤ R.frames) (hlocals : W9 + (maxL + 11) + rm.locals ≤ R.locals)
    (hws : ∀ w ∈ ws, ∀ a' U, s.WarmedH U.vm → w.before a' U = true) (hcode : Cond.codeWith y bytes maxL ret hh ∈ ws) (hinit : ∀ a' U, s.WarmedH U.vm → (Cond.initialized y.cls).before a' U = true) :
    vx_Back l R p e below s sargs y len W9 (PreOf R mc ms Pc) (PostOf Qc mc ms free) (vx_Post XC mc ms free) := by
  intro m meth c A g ig mk a X hg hsize hdg hW hn hp
  have h1 : (headSpec ws rm).pre.before a A.U = true := atoms_intro fun w hw => hws w hw _ _ X.warmed
  have h2 : (Cond.codeWith y bytes maxL ret hh).before a A.U = true := hws _ hcode _ _ X.warmed
  have h3 : (Cond.initialized y.cls).before a A.U = true := hinit _ _ X.warmed
  have h4 : A.cells + (headSpec ws rm).room.cells ≤ R.cells := by rw [show (headSpec ws rm).room.cells = mc from hrc]; exact hp.1
  have h5 : A.slots + (headSpec ws rm).room.slots ≤ R.slots := by rw [show (headSpec ws rm).room.slots = ms from hrs]; exact hp.2.1
  have hPc : Pc a (A.U.calling g mk a) := hblind _ _ _ _ hp.2.2
  obtain ⟨U, Ls, c0, s0⟩ := A
  dsimp only [Pt.U, Pt.locs, Pt.cells, Pt.slots] at h1 h2 h3 h4 h5 X hn hPc ⊢
  obtain ⟨m9, methY, cY, hn9, hmY, hcY, -, hlY, -⟩ := Cond.codeWith_spec h2
  cases Option.some.inj (hn9.symm.trans hn)
  obtain ⟨kY, hkY, -⟩ := className_of_methodNamed hn
  have hinitY : kY.init = .initialized := Cond.initialized_spec (findClass_of_methodNamed hn) hkY h3
  have h : At U g.method c below := by rw [hg]; exact X.here
  have hlocals9 : W9 + (maxL + 11) + (headSpec ws rm).room.locals ≤ R.locals := hlocals
  have happ : (headSpec ws rm).appliesLoose y e.platform (U.calling g mk a) = true :=
    Spec.appliesLoose_calling (g := g) h hdg hn hkY hinitY
      (X.room_calling (g := g) (R' := (headSpec ws rm).room) hsize hmY hcY hframes (by rw [hlY]; omega) h4 h5) h1
  obtain ⟨mid, hmid⟩ := h.above
  have hfr : (U.setTop g).frames = (.java g :: mid) ++ below := by rw [State.frames_setTop' g h.top, hmid]; rfl
  obtain ⟨o, s₂, hsteps, -, hend, hq⟩ := Steps.callFree hM p X.admits X.cas X.clock (acts := []) hfr happ hPc trivial
  have hq' : vx_Q Qc XC mc ms free a (U.calling g mk a) o s₂ := hq
  rw [State.frames_setTop' g h.top] at hend
  obtain ⟨g₀, hg0⟩ := Option.isSome_iff_exists.mp h.top
  obtain ⟨r, hr⟩ := State.topJava?_eq_some.mp hg0
  have hr' : (({ U with heap := s₂.heap, slotsUsed := s₂.slotsUsed } : State).setVm s₂.vm).frames = .java g₀ :: r := hr
  rcases hq' with ⟨hqc, L, hfe, hL⟩ | ⟨q, rfl, E, ce, L, hx, hce, hcv, hcl, hW₂, hsm, hL⟩
  · obtain ⟨⟨v, rfl⟩, hW₂, e2, q2, q3, q4, q5, q6⟩ := id hfe
    have e3 : s₂ = ({ (U.calling g mk a).setFrames s₂.frames with heap := s₂.heap, slotsUsed := s₂.slotsUsed } : State).setVm s₂.vm := by
      have : s₂ = ({ s₂ with vm := (U.calling g mk a).vm } : State).setVm s₂.vm := rfl
      rw [e2] at this
      exact this
    obtain ⟨c₂, i₂, len₂, hc₂, hd₂, hf₂⟩ := hend
    have hW' : U.WarmedH s₂.vm := hW₂
    have hcc : c₂ = c := by
      have h1 : s₂.code? g.method = U.code? g.method := by
        rw [State.code?_eq, State.code?_eq, hW'.alike.method?]
      exact Option.some.inj (hc₂.symm.trans (h1.trans h.code))
    subst hcc
    have hlen : len₂ = len := by rw [hdg] at hd₂; cases hd₂; rfl
    subst hlen
    have hs₂ : s₂ = (({ U with heap := s₂.heap, slotsUsed := s₂.slotsUsed } : State).setVm s₂.vm).setTop { g with pc := g.pc + len₂, stack := v.toList ++ g.stack } := by
      refine e3.trans ?_
      rw [hf₂, State.calling_eq h.top, State.setFrames_setFrames, State.setTop_of_frames _ hr', hr]
      rfl
    have hsame : U.sameButNew ({ U with heap := s₂.heap, slotsUsed := s₂.slotsUsed } : State) L mc ms := by
      refine ⟨?_, q2, q3, q4, q5, q6⟩
      obtain ⟨t, ht, -⟩ := State.frames_cons hr
      show ({ U with heap := s₂.heap, slotsUsed := s₂.slotsUsed } : State) = { U.setFrames U.frames with heap := s₂.heap, slotsUsed := s₂.slotsUsed }
      rw [State.setFrames_self ht]
    subst hg
    refine Or.inl ⟨v, ⟨(({ U with heap := s₂.heap, slotsUsed := s₂.slotsUsed } : State).setVm s₂.vm), Ls ++ L, c0 + mc, s0 + ms⟩,
      ⟨X.admits, X.cas, X.clock, X.frames, X.room, X.hears, X.method, X.code, (X.here.setHeapUsed s₂.heap s₂.slotsUsed).setVm hW'.alike, X.tail, State.WarmedH.trans X.warmed hW', X.limits, X.bytes, X.same.trans (hsame.setVm s.vm)⟩,
      ⟨g, mk, s₂, L, rfl, rfl, hqc, rfl, hL, rfl, rfl⟩, ?_⟩
    show Steps p.tables e below _ ((({ U with heap := s₂.heap, slotsUsed := s₂.slotsUsed } : State).setVm s₂.vm).setTop { g with pc := g.pc + len₂, stack := v.toList ++ g.stack })
    rw [← hs₂]
    exact hsteps
  · obtain ⟨e2, q2, q3, q4, q5, q6⟩ := id hsm
    have e3 : s₂ = ({ (U.calling g mk a).setFrames s₂.frames with heap := s₂.heap, slotsUsed := s₂.slotsUsed } : State).setVm s₂.vm := by
      have : s₂ = ({ s₂ with vm := (U.calling g mk a).vm } : State).setVm s₂.vm := rfl
      rw [e2] at this
      exact this
    have hf₂ : s₂.frames = .throwing q :: .java g :: U.frames.tail := hend
    have hW' : U.WarmedH s₂.vm := hW₂
    have hs₂ : s₂ = ((({ U with heap := s₂.heap, slotsUsed := s₂.slotsUsed } : State).setVm s₂.vm).setTop g).pushFrame (.throwing q) := by
      refine e3.trans ?_
      rw [hf₂, State.calling_eq h.top, State.setFrames_setFrames, State.pushFrame, State.frames_setTop _ hr', State.setTop_of_frames _ hr', State.setFrames_setFrames, hr]
      rfl
    have hsame : U.sameButNew ({ U with heap := s₂.heap, slotsUsed := s₂.slotsUsed } : State) L mc ms := by
      refine ⟨?_, q2, q3, q4, q5, q6⟩
      obtain ⟨t, ht, -⟩ := State.frames_cons hr
      show ({ U with heap := s₂.heap, slotsUsed := s₂.slotsUsed } : State) = { U.setFrames U.frames with heap := s₂.heap, slotsUsed := s₂.slotsUsed }
      rw [State.setFrames_self ht]
    subst hg
    refine Or.inr ⟨q, ⟨(({ U with heap := s₂.heap, slotsUsed := s₂.slotsUsed } : State).setVm s₂.vm), Ls ++ L, c0 + mc, s0 + ms⟩,
      ⟨X.admits, X.cas, X.clock, X.frames, X.room, X.hears, X.method, X.code, (X.here.setHeapUsed s₂.heap s₂.slotsUsed).setVm hW'.alike, X.tail, State.WarmedH.trans X.warmed hW', X.limits, X.bytes, X.same.trans (hsame.setVm s.vm)⟩,
      ⟨g, mk, s₂, L, E, ce, rfl, rfl, hx, hce, hcv, hcl, rfl, hL, rfl, rfl⟩, ?_⟩
    show Steps p.tables e below _ (((({ U with heap := s₂.heap, slotsUsed := s₂.slotsUsed } : State).setVm s₂.vm).setTop g).pushFrame (.throwing q))
    rw [← hs₂]
    exact hsteps
end
variable {p : Program} {l : Launch} {e : Env} {R : Room} {s : State} {m : MethodId} {args : Array Value} {below : List Frame} {meth : Method} {c : Code} {T : State} {H : Heap} {locs : List Loc} {cells slots : Nat}
theorem vx_callVX (X : Stand p l e R s m args below meth c T locs cells slots) (hexec : p.tables.exec = Jvm.exec) {own C : String} {index : Nat} {y : MethodName} {bytes : ByteArray} {maxL : Nat} {ret : Option FieldType} {hh : List (Nat × Nat × Nat × Nat)}
    (hown : s.vm.findClass own = some m.cls) (hlink : (Cond.methodLink own index y).before args s = true) (hinst : (Cond.instanceMethod y).before args s = true) (hsel : (Cond.selects C y y).before args s = true)
    (hcode : (Cond.codeWith y bytes maxL ret hh).before args s = true) (hy : y.cls ≠ "java/lang/invoke/MethodHandle" ∧ y.cls ≠ "java/lang/invoke/VarHandle")
    {W9 : Nat} {Pre : Pt → Array Value → Prop} {Post : Pt → Array Value → Option Value → Pt → Prop} {PostX : Pt → Array Value → Addr → Pt → Prop} (hK : vx_Back l R p e below s args y 3 W9 Pre Post PostX)
    {b : Addr} {cellB : Cell} (hcell : T.heap[b]? = some cellB) (hobj : cellB.vm.isStatics = false) (hcls : s.vm.findClass C = some cellB.cls)
    {g : JFrame} (hg : g.method = m) (hsize : g.locals.size = c.maxLocals) {argsL rest : List Value} (hlen : ∀ sig, parseMethodDescriptor y.desc = some sig → argsL.length = sig.parameters.length)
    (hstack : g.stack = argsL.reverse ++ .ref b :: rest) (hW : 2 * g.monitorRoom + (rest.map fun v => v.category).sum ≤ W9) (hdg : decode c.code g.pc = .ok (.invokevirtual index, 3))
    (hpre : ∀ vm₁, s.WarmedH vm₁ → Pre ⟨T.setVm vm₁, locs, cells, slots⟩ (Value.ref b :: argsL).toArray) :
    (∃ (v : Option Value) (vm₁ : Vm) (B : Pt), s.WarmedH vm₁ ∧ Stand p l e R s m args below meth c B.U B.locs B.cells B.slots ∧ Post ⟨T.setVm vm₁, locs, cells, slots⟩ (Value.ref b :: argsL).toArray v B ∧
      ∀ target, Steps p.tables e below (B.U.setTop { g with pc := g.pc + 3, stack := v.toList ++ rest }) target → Steps p.tables e below (T.setTop g) target) ∨
    (∃ (q : Addr) (vm₁ : Vm) (B : Pt), s.WarmedH vm₁ ∧ Stand p l e R s m args below meth c B.U B.locs B.cells B.slots ∧ PostX ⟨T.setVm vm₁, locs, cells, slots⟩ (Value.ref b :: argsL).toArray q B ∧
      Steps p.tables e below (T.setTop g) ((B.U.setTop { g with stack := rest }).pushFrame (.throwing q))) := by
  obtain ⟨mk, methM, hnamed, hmethM, hstM, habM⟩ := Cond.instanceMethod_spec hinst
  obtain ⟨m8, methM', cM, hn8, hmethM', -, -, -, -, -, -, hsigM⟩ := Cond.codeWith_spec hcode
  cases Option.some.inj (hn8.symm.trans hnamed)
  cases hmethM.symm.trans hmethM'
  obtain ⟨c2, r2, m2, q1, q2, q3, q4, kP, hkP, hkPi⟩ := Cond.selects_spec hsel
  cases hcls.symm.trans q1
  cases (State.methodFound?_of_named hnamed hy).symm.trans q2
  cases hnamed.symm.trans q3
  have hselP : selectMethod e.platform s.vm cellB.cls mk = .method mk := by rw [Launch.admits_selectMethod X.admits]; exact q4
  obtain ⟨vm₁, X₁, hstep₁⟩ := X.invokevirtual hexec hown hlink hnamed hmethM hstM hkP hkPi hy (a := b) (cell := cellB) hcell
    (fun z h => by rw [h] at hobj; cases hobj) hselP hmethM habM hkP hkPi (g := g) hg (argsL := argsL) (rest := rest) (hlen _ hsigM) hstack hdg
  rcases hK m meth c ⟨T.setVm vm₁, locs, cells, slots⟩ { g with stack := rest } (.invokevirtual index) mk (Value.ref b :: argsL).toArray X₁ hg hsize hdg hW (X₁.named hnamed) (hpre vm₁ X₁.warmed) with ⟨v, B, X', hpost, hsteps⟩ | ⟨q, B, X', hpost, hsteps⟩
  · exact Or.inl ⟨v, vm₁, B, X₁.warmed, X', hpost, fun target h => hstep₁ _ fun acts => by rw [doInvoke_state]; exact hsteps.trans h⟩
  · exact Or.inr ⟨q, vm₁, B, X₁.warmed, X', hpost, hstep₁ _ fun acts => by rw [doInvoke_state]; exact hsteps⟩
theorem vx_callSX (X : Stand p l e R s m args below meth c T locs cells slots) (hexec : p.tables.exec = Jvm.exec) {own : String} {index : Nat} {y : MethodName} {bytes : ByteArray} {maxL : Nat} {ret : Option FieldType} {hh : List (Nat × Nat × Nat × Nat)}
    (hown : s.vm.findClass own = some m.cls) (hlink : (Cond.methodLink own index y).before args s = true) (hstat : (Cond.static y).before args s = true) (hinit : (Cond.initialized y.cls).before args s = true)
    (hcode : (Cond.codeWith y bytes maxL ret hh).before args s = true) (hy : y.cls ≠ "java/lang/invoke/MethodHandle" ∧ y.cls ≠ "java/lang/invoke/VarHandle")
    {W9 : Nat} {Pre : Pt → Array Value → Prop} {Post : Pt → Array Value → Option Value → Pt → Prop} {PostX : Pt → Array Value → Addr → Pt → Prop} (hK : vx_Back l R p e below s args y 3 W9 Pre Post PostX)
    {g : JFrame} (hg : g.method = m) (hsize : g.locals.size = c.maxLocals) {argsL rest : List Value} (hlen : ∀ sig, parseMethodDescriptor y.desc = some sig → argsL.length = sig.parameters.length)
    (hstack : g.stack = argsL.reverse ++ rest) (hW : 2 * g.monitorRoom + (rest.map fun v => v.category).sum ≤ W9) (hdg : decode c.code g.pc = .ok (.invokestatic index, 3))
    (hpre : ∀ vm₁, s.WarmedH vm₁ → Pre ⟨T.setVm vm₁, locs, cells, slots⟩ argsL.toArray) :
    (∃ (v : Option Value) (vm₁ : Vm) (B : Pt), s.WarmedH vm₁ ∧ Stand p l e R s m args below meth c B.U B.locs B.cells B.slots ∧ Post ⟨T.setVm vm₁, locs, cells, slots⟩ argsL.toArray v B ∧
      ∀ target, Steps p.tables e below (B.U.setTop { g with pc := g.pc + 3, stack := v.toList ++ rest }) target → Steps p.tables e below (T.setTop g) target) ∨
    (∃ (q : Addr) (vm₁ : Vm) (B : Pt), s.WarmedH vm₁ ∧ Stand p l e R s m args below meth c B.U B.locs B.cells B.slots ∧ PostX ⟨T.setVm vm₁, locs, cells, slots⟩ argsL.toArray q B ∧
      Steps p.tables e below (T.setTop g) ((B.U.setTop { g with stack := rest }).pushFrame (.throwing q))) := by
  obtain ⟨mk, methM, cM, hnamed, hmethM, -, -, -, -, -, -, hsigM⟩ := Cond.codeWith_spec hcode
  have hstatic : methM.isStatic = true := Cond.static_spec hnamed hmethM hstat
  obtain ⟨kP, hkP, -⟩ := className_of_methodNamed hnamed
  have hinitP : kP.init = .initialized := Cond.initialized_spec (findClass_of_methodNamed hnamed) hkP hinit
  obtain ⟨vm₁, X₁, hstep₁⟩ := X.invokestatic hexec hown hlink hnamed hmethM hstatic hkP hinitP hy (g := g) hg (argsL := argsL) (rest := rest) (hlen _ hsigM) hstack hdg
  rcases hK m meth c ⟨T.setVm vm₁, locs, cells, slots⟩ { g with stack := rest } (.invokestatic index) mk argsL.toArray X₁ hg hsize hdg hW (X₁.named hnamed) (hpre vm₁ X₁.warmed) with ⟨v, B, X', hpost, hsteps⟩ | ⟨q, B, X', hpost, hsteps⟩
  · exact Or.inl ⟨v, vm₁, B, X₁.warmed, X', hpost, fun target h => hstep₁ _ fun acts => by rw [doInvoke_state]; exact hsteps.trans h⟩
  · exact Or.inr ⟨q, vm₁, B, X₁.warmed, X', hpost, hstep₁ _ fun acts => by rw [doInvoke_state]; exact hsteps⟩
theorem vx_callVW (X : Stand p l e R s m args below meth c T locs cells slots) (hexec : p.tables.exec = Jvm.exec) {own C : String} {index : Nat} {y : MethodName} {bytes : ByteArray} {maxL : Nat} {ret : Option FieldType} {hh : List (Nat × Nat × Nat × Nat)}
    (hown : s.vm.findClass own = some m.cls) (hlink : (Cond.methodLink own index y).before args s = true) (hinst : (Cond.instanceMethod y).before args s = true) (hsel : (Cond.selects C y y).before args s = true)
    (hcode : (Cond.codeWith y bytes maxL ret hh).before args s = true) (hy : y.cls ≠ "java/lang/invoke/MethodHandle" ∧ y.cls ≠ "java/lang/invoke/VarHandle")
    {W9 : Nat} {Pre : Pt → Array Value → Prop} {Post : Pt → Array Value → Option Value → Pt → Prop} (hK : Back l R p e below s args y 3 W9 Pre Post)
    {b : Addr} {cellB : Cell} (hcell : T.heap[b]? = some cellB) (hobj : cellB.vm.isStatics = false) (hcls : s.vm.findClass C = some cellB.cls)
    {g : JFrame} (hg : g.method = m) (hsize : g.locals.size = c.maxLocals) {argsL rest : List Value} (hlen : ∀ sig, parseMethodDescriptor y.desc = some sig → argsL.length = sig.parameters.length)
    (hstack : g.stack = argsL.reverse ++ .ref b :: rest) (hW : 2 * g.monitorRoom + (rest.map fun v => v.category).sum ≤ W9) (hdg : decode c.code g.pc = .ok (.invokevirtual index, 3))
    (hpre : ∀ vm₁, s.WarmedH vm₁ → Pre ⟨T.setVm vm₁, locs, cells, slots⟩ (Value.ref b :: argsL).toArray) :
    ∃ (v : Option Value) (vm₁ : Vm) (B : Pt), s.WarmedH vm₁ ∧ Stand p l e R s m args below meth c B.U B.locs B.cells B.slots ∧ Post ⟨T.setVm vm₁, locs, cells, slots⟩ (Value.ref b :: argsL).toArray v B ∧
      ∀ target, Steps p.tables e below (B.U.setTop { g with pc := g.pc + 3, stack := v.toList ++ rest }) target → Steps p.tables e below (T.setTop g) target := by
  obtain ⟨mk, methM, hnamed, hmethM, hstM, habM⟩ := Cond.instanceMethod_spec hinst
  obtain ⟨m8, methM', cM, hn8, hmethM', -, -, -, -, -, -, hsigM⟩ := Cond.codeWith_spec hcode
  cases Option.some.inj (hn8.symm.trans hnamed)
  cases hmethM.symm.trans hmethM'
  obtain ⟨c2, r2, m2, q1, q2, q3, q4, kP, hkP, hkPi⟩ := Cond.selects_spec hsel
  cases hcls.symm.trans q1
  cases (State.methodFound?_of_named hnamed hy).symm.trans q2
  cases hnamed.symm.trans q3
  have hselP : selectMethod e.platform s.vm cellB.cls mk = .method mk := by rw [Launch.admits_selectMethod X.admits]; exact q4
  obtain ⟨vm₁, X₁, hstep₁⟩ := X.invokevirtual hexec hown hlink hnamed hmethM hstM hkP hkPi hy (a := b) (cell := cellB) hcell
    (fun z h => by rw [h] at hobj; cases hobj) hselP hmethM habM hkP hkPi (g := g) hg (argsL := argsL) (rest := rest) (hlen _ hsigM) hstack hdg
  obtain ⟨v, B, X', hpost, hsteps⟩ := hK m meth c ⟨T.setVm vm₁, locs, cells, slots⟩ { g with stack := rest } (.invokevirtual index) mk (Value.ref b :: argsL).toArray X₁ hg hsize hdg hW (X₁.named hnamed) (hpre vm₁ X₁.warmed)
  exact ⟨v, vm₁, B, X₁.warmed, X', hpost, fun target h => hstep₁ _ fun acts => by rw [doInvoke_state]; exact hsteps.trans h⟩
abbrev vx_CVW (R : Room) (s : State) (args : Array Value) (own C : String) (index : Nat) (y : MethodName) (bytes : ByteArray) (maxL : Nat) (ret : Option FieldType) (hh : List (Nat × Nat × Nat × Nat)) (ws : List Cond) (rm : Room) (mc ms n : Nat) : Prop :=
  (rm.cells = mc ∧ rm.slots = ms ∧ rm.frames + 1 ≤ R.frames ∧ 8 + (maxL + 11) + rm.locals ≤ R.locals ∧ (∀ w ∈ ws, ∀ (a' : Array Value) (U : State), s.WarmedH U.vm → w.before a' U = true) ∧ Cond.codeWith y bytes maxL ret hh ∈ ws) ∧
  (Cond.codeWith y bytes maxL ret hh).before args s = true ∧ (Cond.initialized y.cls).before args s = true ∧ (y.cls ≠ "java/lang/invoke/MethodHandle" ∧ y.cls ≠ "java/lang/invoke/VarHandle") ∧
  (∀ sig, parseMethodDescriptor y.desc = some sig → n = sig.parameters.length) ∧ (Cond.methodLink own index y).before args s = true ∧ (Cond.instanceMethod y).before args s = true ∧ (Cond.selects C y y).before args s = true
theorem vx_cwVW {own C : String} {index maxL mc ms : Nat} {y : MethodName} {bytes : ByteArray} {ret : Option FieldType} {hh : List (Nat × Nat × Nat × Nat)} {Ts ws ws' : List Cond} {rm : Room} (n : Nat) (ht : ∀ w ∈ Ts, w.before args s = true) (hT : GoodIn Ts (wsV own index C y ws)) (hw : ws = Cond.codeWith y bytes maxL ret hh :: ws') (hrc : rm.cells = mc) (hrs : rm.slots = ms)
    (hd : y.cls = C ∧ y.cls ≠ "java/lang/invoke/MethodHandle" ∧ y.cls ≠ "java/lang/invoke/VarHandle" ∧ (parseMethodDescriptor y.desc).map (fun d => d.parameters.length) = some n) (hR : rm.frames + 1 ≤ R.frames ∧ 8 + (maxL + 11) + rm.locals ≤ R.locals) :
    vx_CVW R s args own C index y bytes maxL ret hh ws rm mc ms n := by
  obtain ⟨hC, hd⟩ := hd
  subst hC
  have ok : ∀ w ∈ wsV own index y.cls y ws, w.before args s = true := fun w h => ht w (hT w h).1
  have hG : GoodIn Ts ws := fun w h => hT w (by unfold wsV; exact List.mem_append_right _ h)
  have hc : Cond.codeWith y bytes maxL ret hh ∈ ws := by rw [hw]; exact List.mem_cons_self
  refine ⟨⟨hrc, hrs, hR.1, hR.2, pay_in ht hG, hc⟩, ht _ (hG _ hc).1, ok _ (by simp [wsV]), ⟨hd.1, hd.2.1⟩, fun sig h => ?_, ok _ (by simp [wsV]), ok _ (by simp [wsV]), ok _ (by simp [wsV])⟩
  have h2 := hd.2.2
  rw [h] at h2
  exact (Option.some.inj h2).symm
theorem vx_runVW {y : MethodName} {bytes cc : ByteArray} {maxL nL mc ms n index : Nat} {ret : Option FieldType} {hh : List (Nat × Nat × Nat × Nat)} {ws : List Cond} {rm : Room} {Pc : Array Value → State → Prop} {Qc : Array Value → State → Outcome → State → Prop} {free : Addr → Prop} {Ts : List Cond} {own C : String} {b : Addr} {As rest : List Value} {g : JFrame}
    (S : CallFix p m c cc nL s args Ts own) (hM : Met l y ws rm Pc Qc mc ms free) (cw : vx_CVW R s args own C index y bytes maxL ret hh ws rm mc ms n) (hp : PreV s H C b Pc As)
    (hg : g.method = m) (hn : As.length = n) (hsize : g.locals.size = nL) (hstack : g.stack = As.reverse ++ .ref b :: rest) (hW : 2 * g.monitorRoom + (rest.map fun v => v.category).sum ≤ 8) (hdg : decode cc g.pc = .ok (.invokevirtual index, 3)) (hf : cells + mc ≤ R.cells ∧ slots + ms ≤ R.slots) :
    va_Run p l e R s m args below meth c H locs cells slots mc ms g rest (Qc (Value.ref b :: As).toArray) free := by
  obtain ⟨⟨hrc, hrs, hfr, hlo, hws, hcw⟩, hcode, hini, hy, hlen, hl, hin, hse⟩ := cw
  have hK : Back l R p e below s args y 3 8 (PreOf R mc ms Pc) (PostOf Qc mc ms free) := va_backW (hh := hh) (bytes := bytes) (maxL := maxL) (ret := ret) hM hp.1 hrc hrs hfr hlo hws hcw (fun a' U hW => word_at hW (Or.inl (by first | rfl | simp [Cond.onTables, Cond.keeps, Cond.steady])) hini)
  obtain ⟨hx, hb, hml, ho, -⟩ := S
  obtain ⟨-, ⟨cellB, hcB, hoB, hclB⟩, hPc⟩ := hp
  intro T hT X
  obtain ⟨v, vm₁, ⟨U', l2, c2, s2⟩, hW₁, X', ⟨g', mk, t, L, e1, e2, hq, h1, hL, h2, h3⟩, st⟩ := vx_callVW X hx (C := C) (hh := hh) (bytes := bytes) (maxL := maxL) (ret := ret) ho hl hin hse hcode hy hK (by rw [hT]; exact hcB) hoB hclB hg (hsize.trans hml.symm) (argsL := As) (rest := rest) (fun sig h => hn.trans (hlen sig h)) hstack hW (by rw [hb]; exact hdg)
    (fun vm₁ hW₁ => ⟨hf.1, hf.2, hPc (T.setVm vm₁) hT hW₁⟩)
  dsimp only [Pt.U, Pt.locs, Pt.cells, Pt.slots] at X' e1 e2 h1 h2 h3 st
  subst h1; subst h2; subst h3
  exact ⟨v, (T.setVm vm₁).calling g' mk (Value.ref b :: As).toArray, t, U', L, hT, X', hL, e1, e2, hq, st⟩
section
variable {y : MethodName} {bytes cc : ByteArray} {maxL nL mc ms n index : Nat} {ret : Option FieldType} {ws : List Cond} {rm : Room} {Pc : Array Value → State → Prop} {Qc : Array Value → State → Outcome → State → Prop} {XC : String → State → State → Prop} {free : Addr → Prop} {Ts : List Cond} {own C : String} {b : Addr} {As rest : List Value} {g : JFrame}
theorem vx_runVX {hh : List (Nat × Nat × Nat × Nat)} (S : CallFix p m c cc nL s args Ts own) (hM : vx_Met l y ws rm Pc Qc XC mc ms free) (cw : vx_CVW R s args own C index y bytes maxL ret hh ws rm mc ms n) (hp : PreV s H C b Pc As)
    (hg : g.method = m) (hn : As.length = n) (hsize : g.locals.size = nL) (hstack : g.stack = As.reverse ++ .ref b :: rest) (hW : 2 * g.monitorRoom + (rest.map fun v => v.category).sum ≤ 8) (hdg : decode cc g.pc = .ok (.invokevirtual index, 3)) (hf : cells + mc ≤ R.cells ∧ slots + ms ≤ R.slots) :
    vx_Run p l e R s m args below meth c H locs cells slots mc ms g rest (Qc (Value.ref b :: As).toArray) XC free := by
  obtain ⟨⟨hrc, hrs, hfr, hlo, hws, hcw⟩, hcode, hini, hy, hlen, hl, hin, hse⟩ := cw
  have hK : vx_Back l R p e below s args y 3 8 (PreOf R mc ms Pc) (PostOf Qc mc ms free) (vx_Post XC mc ms free) := vx_backW (hh := hh) (bytes := bytes) (maxL := maxL) (ret := ret) hM hp.1 hrc hrs hfr hlo hws hcw (fun a' U hW => word_at hW (Or.inl (by first | rfl | simp [Cond.onTables, Cond.keeps, Cond.steady])) hini)
  obtain ⟨hx, hb, hml, ho, -⟩ := S
  obtain ⟨-, ⟨cellB, hcB, hoB, hclB⟩, hPc⟩ := hp
  intro T hT X
  rcases vx_callVX X hx (C := C) (hh := hh) (bytes := bytes) (maxL := maxL) (ret := ret) ho hl hin hse hcode hy hK (by rw [hT]; exact hcB) hoB hclB hg (hsize.trans hml.symm) (argsL := As) (rest := rest) (fun sig h => hn.trans (hlen sig h)) hstack hW (by rw [hb]; exact hdg)
    (fun vm₁ hW₁ => ⟨hf.1, hf.2, hPc (T.setVm vm₁) hT hW₁⟩) with ⟨v, vm₁, ⟨U', l2, c2, s2⟩, hW₁, X', ⟨g', mk, t, L, e1, e2, hq, h1, hL, h2, h3⟩, st⟩ | ⟨q, vm₁, ⟨U', l2, c2, s2⟩, hW₁, X', ⟨g', mk, t, L, E, ce, e1, e2, hq, hce, hcv, hcl, h1, hL, h2, h3⟩, st⟩
  · dsimp only [Pt.U, Pt.locs, Pt.cells, Pt.slots] at X' e1 e2 h1 h2 h3 st
    subst h1; subst h2; subst h3
    exact Or.inl ⟨v, (T.setVm vm₁).calling g' mk (Value.ref b :: As).toArray, t, U', L, hT, X', hL, e1, e2, hq, st⟩
  · dsimp only [Pt.U, Pt.locs, Pt.cells, Pt.slots] at X' e1 e2 h1 h2 h3 st hcl
    subst h1; subst h2; subst h3
    exact Or.inr ⟨q, (T.setVm vm₁).calling g' mk (Value.ref b :: As).toArray, t, U', L, E, ce, hT, X', hL, e1, e2, hq, hce, hcv, vx_cls hW₁ hcl, st⟩
theorem vx_runSX {hh : List (Nat × Nat × Nat × Nat)} (S : CallFix p m c cc nL s args Ts own) (hM : vx_Met l y ws rm Pc Qc XC mc ms free) (cw : vx_CSW R s args own index y bytes maxL ret hh ws rm mc ms n) (hp : PreS s H Pc As)
    (hg : g.method = m) (hn : As.length = n) (hsize : g.locals.size = nL) (hstack : g.stack = As.reverse ++ rest) (hW : 2 * g.monitorRoom + (rest.map fun v => v.category).sum ≤ 8) (hdg : decode cc g.pc = .ok (.invokestatic index, 3)) (hf : cells + mc ≤ R.cells ∧ slots + ms ≤ R.slots) :
    vx_Run p l e R s m args below meth c H locs cells slots mc ms g rest (Qc As.toArray) XC free := by
  obtain ⟨⟨hrc, hrs, hfr, hlo, hws, hcw⟩, hcode, hini, hy, hlen, hl, hstt⟩ := cw
  have hK : vx_Back l R p e below s args y 3 8 (PreOf R mc ms Pc) (PostOf Qc mc ms free) (vx_Post XC mc ms free) := vx_backW (hh := hh) (bytes := bytes) (maxL := maxL) (ret := ret) hM hp.1 hrc hrs hfr hlo hws hcw (fun a' U hW => word_at hW (Or.inl (by first | rfl | simp [Cond.onTables, Cond.keeps, Cond.steady])) hini)
  obtain ⟨hx, hb, hml, ho, -⟩ := S
  intro T hT X
  rcases vx_callSX X hx (hh := hh) (bytes := bytes) (maxL := maxL) (ret := ret) ho hl hstt hini hcode hy hK hg (hsize.trans hml.symm) (argsL := As) (rest := rest) (fun sig h => hn.trans (hlen sig h)) hstack hW (by rw [hb]; exact hdg)
    (fun vm₁ hW₁ => ⟨hf.1, hf.2, hp.2 (T.setVm vm₁) hT hW₁⟩) with ⟨v, vm₁, ⟨U', l2, c2, s2⟩, hW₁, X', ⟨g', mk, t, L, e1, e2, hq, h1, hL, h2, h3⟩, st⟩ | ⟨q, vm₁, ⟨U', l2, c2, s2⟩, hW₁, X', ⟨g', mk, t, L, E, ce, e1, e2, hq, hce, hcv, hcl, h1, hL, h2, h3⟩, st⟩
  · dsimp only [Pt.U, Pt.locs, Pt.cells, Pt.slots] at X' e1 e2 h1 h2 h3 st
    subst h1; subst h2; subst h3
    exact Or.inl ⟨v, (T.setVm vm₁).calling g' mk As.toArray, t, U', L, hT, X', hL, e1, e2, hq, st⟩
  · dsimp only [Pt.U, Pt.locs, Pt.cells, Pt.slots] at X' e1 e2 h1 h2 h3 st hcl
    subst h1; subst h2; subst h3
    exact Or.inr ⟨q, (T.setVm vm₁).calling g' mk As.toArray, t, U', L, E, ce, hT, X', hL, e1, e2, hq, hce, hcv, vx_cls hW₁ hcl, st⟩
end
end VXH
theorem vx_ofWH {l : Launch} {y : MethodName} {ws ws' : List Cond} {rm : Room} {Pc : Array Value → State → Prop} {Qc : Array Value → State → Outcome → State → Prop} {XC : String → State → State → Prop} {mc ms : Nat} {free : Addr → Prop} {cc : ByteArray} {maxL : Nat} {ret : Option FieldType} {hh : List (Nat × Nat × Nat × Nat)}
    (hy : plainName y.cls = true) (hw : ws = Cond.codeWith y cc maxL ret hh :: ws')
    (body : ∀ p e s m args below meth c s₁, BodyLoose p l y (headSpec ws rm) cc maxL ret e s m args below meth c s₁ → c.maxLocals = maxL → Pc args s →
      W p l e (headSpec ws rm).room s m args below meth c s.heap [] 0 0 (vx_MQ below Qc XC args s mc ms free) (entryFrame m args maxL)) : vx_Met l y ws rm Pc Qc XC mc ms free := by
  refine MetFree.of_bodyS (code := cc) (maxLocals := maxL) (ret := ret) hy ?_ ?_
  · intro args s m h hn
    obtain ⟨m9, meth, c, hn9, h1, h2, h3, h4, -, h5, h6, -⟩ := Cond.codeWith_spec (atoms_spec (ws := ws) h _ (by rw [hw]; exact List.mem_cons_self))
    cases hn.symm.trans hn9
    exact ⟨meth, c, h1, h2, h3, h4, h5, h6⟩
  · intro p e s m args below meth c s₁ B hml hP _
    have hh0 : s₁.heap = s.heap := by rw [B.state]; rfl
    obtain ⟨t, a1, o, b1, b2, b3⟩ := body p e s m args below meth c s₁ B hml hP s₁ hh0 (Stand.of_body B)
    exact ⟨t, o, a1, b1, b2, b3⟩
/-! ===== END ===== -/
end
section
def RX0 : String := "FormatDump$Argument"
def TX0 : u_T := fun k => match k with
  | 0 => ("FormatDump$Argument", "characters", "LFormatDump$Row;", true)
  | 1 => ("FormatDump$Argument", "isText", "Z", false)
  | _ => ("FormatDump$Argument", "value", "J", false)
def tyX0 : Nat → FieldType := fun k => match k with
  | 0 => .object "FormatDump$Row"
  | 1 => .boolean
  | _ => .long
abbrev wsX00 : List Cond := u_ws RX0 TX0 3
theorem nmX0 : ∀ a, a < 3 → ∀ b, b < 3 → a ≠ b → (TX0 a).2.1 ≠ (TX0 b).2.1 := by decide +kernel
theorem tyX0_ok : ∀ k, k < 3 → parseFieldDescriptor (TX0 k).2.2.1 = some (tyX0 k) := by decide +kernel
abbrev cX0_init : ByteArray := prog_2_method_1_code
def yX0_init : MethodName := ⟨RX0, "<init>", "()V"⟩
def RX1 : String := "FormatDump$Arguments"
def TX1 : u_T := fun k => match k with
  | 0 => ("FormatDump$Arguments", "all", "[LFormatDump$Argument;", true)
  | 1 => ("FormatDump$Arguments", "reading", "LFormatDump$NumberReading;", true)
  | 2 => ("FormatDump$Arguments", "count", "I", false)
  | 3 => ("FormatDump$Arguments", "taken", "I", false)
  | _ => ("FormatDump$Arguments", "oddTexts", "I", false)
def tyX1 : Nat → FieldType := fun k => match k with
  | 0 => .array (.object "FormatDump$Argument")
  | 1 => .object "FormatDump$NumberReading"
  | 2 => .int
  | 3 => .int
  | _ => .int
abbrev wsX10 : List Cond := u_ws RX1 TX1 5
theorem nmX1 : ∀ a, a < 5 → ∀ b, b < 5 → a ≠ b → (TX1 a).2.1 ≠ (TX1 b).2.1 := by decide +kernel
theorem tyX1_ok : ∀ k, k < 5 → parseFieldDescriptor (TX1 k).2.2.1 = some (tyX1 k) := by decide +kernel
abbrev cX1_init : ByteArray := prog_3_method_1_code
def yX1_init : MethodName := ⟨RX1, "<init>", "()V"⟩
abbrev cX1_count : ByteArray := prog_3_method_2_code
def yX1_count : MethodName := ⟨RX1, "count", "()I"⟩
abbrev cX1_taken : ByteArray := prog_3_method_3_code
def yX1_taken : MethodName := ⟨RX1, "taken", "()I"⟩
abbrev cX1_oddTexts : ByteArray := prog_3_method_4_code
def yX1_oddTexts : MethodName := ⟨RX1, "oddTexts", "()I"⟩
abbrev cX1_clear : ByteArray := prog_3_method_5_code
def yX1_clear : MethodName := ⟨RX1, "clear", "()V"⟩
abbrev cX1_addNumber : ByteArray := prog_3_method_6_code
def yX1_addNumber : MethodName := ⟨RX1, "addNumber", "(J)V"⟩
abbrev cX1_addText : ByteArray := prog_3_method_7_code
def yX1_addText : MethodName := ⟨RX1, "addText", "(LFormatDump$Row;)V"⟩
abbrev cX1_takeFromFront : ByteArray := prog_3_method_8_code
def yX1_takeFromFront : MethodName := ⟨RX1, "takeFromFront", "()V"⟩
abbrev cX1_takeNext : ByteArray := prog_3_method_9_code
def yX1_takeNext : MethodName := ⟨RX1, "takeNext", "()LFormatDump$Argument;"⟩
abbrev cX1_takeNumber : ByteArray := prog_3_method_10_code
def yX1_takeNumber : MethodName := ⟨RX1, "takeNumber", "()J"⟩
def RX2 : String := "FormatDump$Directive"
def TX2 : u_T := fun k => match k with
  | 0 => ("FormatDump$Directive", "flagLeft", "Z", false)
  | 1 => ("FormatDump$Directive", "flagPlus", "Z", false)
  | 2 => ("FormatDump$Directive", "flagBlank", "Z", false)
  | 3 => ("FormatDump$Directive", "flagMark", "Z", false)
  | 4 => ("FormatDump$Directive", "flagZero", "Z", false)
  | 5 => ("FormatDump$Directive", "starWidth", "Z", false)
  | 6 => ("FormatDump$Directive", "starPrecision", "Z", false)
  | 7 => ("FormatDump$Directive", "width", "I", false)
  | 8 => ("FormatDump$Directive", "precision", "I", false)
  | 9 => ("FormatDump$Directive", "bits", "I", false)
  | 10 => ("FormatDump$Directive", "letter", "I", false)
  | _ => ("FormatDump$Directive", "end", "I", false)
def tyX2 : Nat → FieldType := fun k => match k with
  | 0 => .boolean
  | 1 => .boolean
  | 2 => .boolean
  | 3 => .boolean
  | 4 => .boolean
  | 5 => .boolean
  | 6 => .boolean
  | 7 => .int
  | 8 => .int
  | 9 => .int
  | 10 => .int
  | _ => .int
abbrev wsX20 : List Cond := u_ws RX2 TX2 12
theorem nmX2 : ∀ a, a < 12 → ∀ b, b < 12 → a ≠ b → (TX2 a).2.1 ≠ (TX2 b).2.1 := by decide +kernel
theorem tyX2_ok : ∀ k, k < 12 → parseFieldDescriptor (TX2 k).2.2.1 = some (tyX2 k) := by decide +kernel
abbrev cX2_init : ByteArray := prog_4_method_1_code
def yX2_init : MethodName := ⟨RX2, "<init>", "()V"⟩
abbrev cX2_read : ByteArray := prog_4_method_2_code
def yX2_read : MethodName := ⟨RX2, "read", "(LFormatDump$Row;I)Z"⟩
abbrev cX2_isSigned : ByteArray := prog_4_method_3_code
def yX2_isSigned : MethodName := ⟨RX2, "isSigned", "()Z"⟩
abbrev cX2_isHexadecimal : ByteArray := prog_4_method_4_code
def yX2_isHexadecimal : MethodName := ⟨RX2, "isHexadecimal", "()Z"⟩
abbrev cX2_base : ByteArray := prog_4_method_5_code
def yX2_base : MethodName := ⟨RX2, "base", "()I"⟩
abbrev cX2_fillsWithZeros : ByteArray := prog_4_method_6_code
def yX2_fillsWithZeros : MethodName := ⟨RX2, "fillsWithZeros", "()Z"⟩
abbrev cX2_takeWidth : ByteArray := prog_4_method_7_code
def yX2_takeWidth : MethodName := ⟨RX2, "takeWidth", "(J)V"⟩
abbrev cX2_takePrecision : ByteArray := prog_4_method_8_code
def yX2_takePrecision : MethodName := ⟨RX2, "takePrecision", "(J)V"⟩
abbrev cX2_cutToStar : ByteArray := prog_4_method_9_code
def yX2_cutToStar : MethodName := ⟨RX2, "cutToStar", "(J)I"⟩
abbrev cX2_forget : ByteArray := prog_4_method_10_code
def yX2_forget : MethodName := ⟨RX2, "forget", "()V"⟩
abbrev cX2_readFlags : ByteArray := prog_4_method_11_code
def yX2_readFlags : MethodName := ⟨RX2, "readFlags", "(LFormatDump$Row;)V"⟩
abbrev cX2_noteFlag : ByteArray := prog_4_method_12_code
def yX2_noteFlag : MethodName := ⟨RX2, "noteFlag", "(I)Z"⟩
abbrev cX2_readWidth : ByteArray := prog_4_method_13_code
def yX2_readWidth : MethodName := ⟨RX2, "readWidth", "(LFormatDump$Row;)V"⟩
abbrev cX2_readPrecision : ByteArray := prog_4_method_14_code
def yX2_readPrecision : MethodName := ⟨RX2, "readPrecision", "(LFormatDump$Row;)V"⟩
abbrev cX2_readTwoDigits : ByteArray := prog_4_method_15_code
def yX2_readTwoDigits : MethodName := ⟨RX2, "readTwoDigits", "(LFormatDump$Row;)I"⟩
abbrev cX2_readLength : ByteArray := prog_4_method_16_code
def yX2_readLength : MethodName := ⟨RX2, "readLength", "(LFormatDump$Row;)V"⟩
abbrev cX2_isLetter : ByteArray := prog_4_method_17_code
def yX2_isLetter : MethodName := ⟨RX2, "isLetter", "()Z"⟩
def RX3 : String := "FormatDump$Escape"
def TX3 : u_T := fun k => match k with
  | 0 => ("FormatDump$Escape", "value", "I", false)
  | _ => ("FormatDump$Escape", "end", "I", false)
def tyX3 : Nat → FieldType := fun k => match k with
  | 0 => .int
  | _ => .int
abbrev wsX30 : List Cond := u_ws RX3 TX3 2
theorem nmX3 : ∀ a, a < 2 → ∀ b, b < 2 → a ≠ b → (TX3 a).2.1 ≠ (TX3 b).2.1 := by decide +kernel
theorem tyX3_ok : ∀ k, k < 2 → parseFieldDescriptor (TX3 k).2.2.1 = some (tyX3 k) := by decide +kernel
abbrev cX3_init : ByteArray := prog_5_method_1_code
def yX3_init : MethodName := ⟨RX3, "<init>", "()V"⟩
abbrev cX3_value : ByteArray := prog_5_method_2_code
def yX3_value : MethodName := ⟨RX3, "value", "()I"⟩
abbrev cX3_end : ByteArray := prog_5_method_3_code
def yX3_end : MethodName := ⟨RX3, "end", "()I"⟩
abbrev cX3_readInFormat : ByteArray := prog_5_method_4_code
def yX3_readInFormat : MethodName := ⟨RX3, "readInFormat", "(LFormatDump$Row;I)Z"⟩
abbrev cX3_readInText : ByteArray := prog_5_method_5_code
def yX3_readInText : MethodName := ⟨RX3, "readInText", "(LFormatDump$Row;I)Z"⟩
abbrev cX3_readLetter : ByteArray := prog_5_method_6_code
def yX3_readLetter : MethodName := ⟨RX3, "readLetter", "(LFormatDump$Row;I)Z"⟩
abbrev cX3_readOctal : ByteArray := prog_5_method_7_code
def yX3_readOctal : MethodName := ⟨RX3, "readOctal", "(LFormatDump$Row;I)V"⟩
abbrev cX3_meaningOf : ByteArray := prog_5_method_8_code
def yX3_meaningOf : MethodName := ⟨RX3, "meaningOf", "(I)I"⟩
def RX4 : String := "FormatDump$Figures"
def TX4 : u_T := fun k => match k with
  | 0 => ("FormatDump$Figures", "lowestFirst", "[I", true)
  | 1 => ("FormatDump$Figures", "size", "I", false)
  | _ => ("FormatDump$Figures", "large", "Z", false)
def tyX4 : Nat → FieldType := fun k => match k with
  | 0 => .array .int
  | 1 => .int
  | _ => .boolean
abbrev wsX40 : List Cond := u_ws RX4 TX4 3
theorem nmX4 : ∀ a, a < 3 → ∀ b, b < 3 → a ≠ b → (TX4 a).2.1 ≠ (TX4 b).2.1 := by decide +kernel
theorem tyX4_ok : ∀ k, k < 3 → parseFieldDescriptor (TX4 k).2.2.1 = some (tyX4 k) := by decide +kernel
abbrev cX4_init : ByteArray := prog_6_method_1_code
def yX4_init : MethodName := ⟨RX4, "<init>", "()V"⟩
abbrev cX4_take : ByteArray := prog_6_method_2_code
def yX4_take : MethodName := ⟨RX4, "take", "(JIZ)V"⟩
abbrev cX4_size : ByteArray := prog_6_method_3_code
def yX4_size : MethodName := ⟨RX4, "size", "()I"⟩
abbrev cX4_writeTo : ByteArray := prog_6_method_4_code
def yX4_writeTo : MethodName := ⟨RX4, "writeTo", "(LFormatDump$Row;I)V"⟩
abbrev cX4_characterOf : ByteArray := prog_6_method_5_code
def yX4_characterOf : MethodName := ⟨RX4, "characterOf", "(I)I"⟩
def RX5 : String := "FormatDump$NumberReading"
def TX5 : u_T := fun k => match k with
  | 0 => ("FormatDump$NumberReading", "value", "J", false)
  | _ => ("FormatDump$NumberReading", "odd", "Z", false)
def tyX5 : Nat → FieldType := fun k => match k with
  | 0 => .long
  | _ => .boolean
abbrev wsX50 : List Cond := u_ws RX5 TX5 2
theorem nmX5 : ∀ a, a < 2 → ∀ b, b < 2 → a ≠ b → (TX5 a).2.1 ≠ (TX5 b).2.1 := by decide +kernel
theorem tyX5_ok : ∀ k, k < 2 → parseFieldDescriptor (TX5 k).2.2.1 = some (tyX5 k) := by decide +kernel
abbrev cX5_init : ByteArray := prog_7_method_1_code
def yX5_init : MethodName := ⟨RX5, "<init>", "()V"⟩
abbrev cX5_value : ByteArray := prog_7_method_2_code
def yX5_value : MethodName := ⟨RX5, "value", "()J"⟩
abbrev cX5_isOdd : ByteArray := prog_7_method_3_code
def yX5_isOdd : MethodName := ⟨RX5, "isOdd", "()Z"⟩
abbrev cX5_read : ByteArray := prog_7_method_4_code
def yX5_read : MethodName := ⟨RX5, "read", "(LFormatDump$Row;)V"⟩
abbrev cX5_readCharacter : ByteArray := prog_7_method_5_code
def yX5_readCharacter : MethodName := ⟨RX5, "readCharacter", "(LFormatDump$Row;)V"⟩
abbrev cX5_isHexadecimal : ByteArray := prog_7_method_6_code
def yX5_isHexadecimal : MethodName := ⟨RX5, "isHexadecimal", "(LFormatDump$Row;I)Z"⟩
abbrev cX5_readDigits : ByteArray := prog_7_method_7_code
def yX5_readDigits : MethodName := ⟨RX5, "readDigits", "(LFormatDump$Row;II)V"⟩
def RX6 : String := "FormatDump$PairDump"
def TX6 : u_T := fun k => match k with
  | 0 => ("FormatDump$PairDump", "page", "LFormatDump$Row;", true)
  | 1 => ("FormatDump$PairDump", "bytes", "LFormatDump$Row;", true)
  | _ => ("FormatDump$PairDump", "figures", "LFormatDump$Figures;", true)
def tyX6 : Nat → FieldType := fun k => match k with
  | 0 => .object "FormatDump$Row"
  | 1 => .object "FormatDump$Row"
  | _ => .object "FormatDump$Figures"
abbrev wsX60 : List Cond := u_ws RX6 TX6 3
theorem nmX6 : ∀ a, a < 3 → ∀ b, b < 3 → a ≠ b → (TX6 a).2.1 ≠ (TX6 b).2.1 := by decide +kernel
theorem tyX6_ok : ∀ k, k < 3 → parseFieldDescriptor (TX6 k).2.2.1 = some (tyX6 k) := by decide +kernel
abbrev cX6_init : ByteArray := prog_8_method_1_code
def yX6_init : MethodName := ⟨RX6, "<init>", "(LFormatDump$Row;LFormatDump$Row;LFormatDump$Figures;)V"⟩
abbrev cX6_dump : ByteArray := prog_8_method_2_code
def yX6_dump : MethodName := ⟨RX6, "dump", "(IIZ)V"⟩
abbrev cX6_writeDigits : ByteArray := prog_8_method_3_code
def yX6_writeDigits : MethodName := ⟨RX6, "writeDigits", "(IIZ)V"⟩
def RX7 : String := "FormatDump$PairReader"
def TX7 : u_T := fun k => match k with
  | 0 => ("FormatDump$PairReader", "page", "LFormatDump$Row;", true)
  | 1 => ("FormatDump$PairReader", "found", "LFormatDump$Row;", true)
  | 2 => ("FormatDump$PairReader", "lineBytes", "LFormatDump$Row;", true)
  | 3 => ("FormatDump$PairReader", "total", "I", false)
  | _ => ("FormatDump$PairReader", "at", "I", false)
def tyX7 : Nat → FieldType := fun k => match k with
  | 0 => .object "FormatDump$Row"
  | 1 => .object "FormatDump$Row"
  | 2 => .object "FormatDump$Row"
  | 3 => .int
  | _ => .int
abbrev wsX70 : List Cond := u_ws RX7 TX7 5
theorem nmX7 : ∀ a, a < 5 → ∀ b, b < 5 → a ≠ b → (TX7 a).2.1 ≠ (TX7 b).2.1 := by decide +kernel
theorem tyX7_ok : ∀ k, k < 5 → parseFieldDescriptor (TX7 k).2.2.1 = some (tyX7 k) := by decide +kernel
abbrev cX7_init : ByteArray := prog_9_method_1_code
def yX7_init : MethodName := ⟨RX7, "<init>", "(LFormatDump$Row;)V"⟩
abbrev cX7_found : ByteArray := prog_9_method_2_code
def yX7_found : MethodName := ⟨RX7, "found", "()LFormatDump$Row;"⟩
abbrev cX7_stop : ByteArray := prog_9_method_3_code
def yX7_stop : MethodName := ⟨RX7, "stop", "()I"⟩
abbrev cX7_readPage : ByteArray := prog_9_method_4_code
def yX7_readPage : MethodName := ⟨RX7, "readPage", "(II)Z"⟩
abbrev cX7_readLine : ByteArray := prog_9_method_5_code
def yX7_readLine : MethodName := ⟨RX7, "readLine", "(III)Z"⟩
abbrev cX7_readAddress : ByteArray := prog_9_method_6_code
def yX7_readAddress : MethodName := ⟨RX7, "readAddress", "()Z"⟩
abbrev cX7_readPairs : ByteArray := prog_9_method_7_code
def yX7_readPairs : MethodName := ⟨RX7, "readPairs", "(II)Z"⟩
abbrev cX7_readPair : ByteArray := prog_9_method_8_code
def yX7_readPair : MethodName := ⟨RX7, "readPair", "()Z"⟩
abbrev cX7_readBlanks : ByteArray := prog_9_method_9_code
def yX7_readBlanks : MethodName := ⟨RX7, "readBlanks", "(I)Z"⟩
abbrev cX7_readSeen : ByteArray := prog_9_method_10_code
def yX7_readSeen : MethodName := ⟨RX7, "readSeen", "()Z"⟩
abbrev cX7_readOne : ByteArray := prog_9_method_11_code
def yX7_readOne : MethodName := ⟨RX7, "readOne", "(I)Z"⟩
def RX8 : String := "FormatDump$Printer"
def TX8 : u_T := fun k => match k with
  | 0 => ("FormatDump$Printer", "page", "LFormatDump$Row;", true)
  | 1 => ("FormatDump$Printer", "arguments", "LFormatDump$Arguments;", true)
  | 2 => ("FormatDump$Printer", "figures", "LFormatDump$Figures;", true)
  | 3 => ("FormatDump$Printer", "escape", "LFormatDump$Escape;", true)
  | 4 => ("FormatDump$Printer", "directive", "LFormatDump$Directive;", true)
  | 5 => ("FormatDump$Printer", "piece", "LFormatDump$Row;", true)
  | 6 => ("FormatDump$Printer", "raw", "LFormatDump$Row;", true)
  | _ => ("FormatDump$Printer", "ended", "Z", false)
def tyX8 : Nat → FieldType := fun k => match k with
  | 0 => .object "FormatDump$Row"
  | 1 => .object "FormatDump$Arguments"
  | 2 => .object "FormatDump$Figures"
  | 3 => .object "FormatDump$Escape"
  | 4 => .object "FormatDump$Directive"
  | 5 => .object "FormatDump$Row"
  | 6 => .object "FormatDump$Row"
  | _ => .boolean
abbrev wsX80 : List Cond := u_ws RX8 TX8 8
theorem nmX8 : ∀ a, a < 8 → ∀ b, b < 8 → a ≠ b → (TX8 a).2.1 ≠ (TX8 b).2.1 := by decide +kernel
theorem tyX8_ok : ∀ k, k < 8 → parseFieldDescriptor (TX8 k).2.2.1 = some (tyX8 k) := by decide +kernel
abbrev cX8_init : ByteArray := prog_10_method_1_code
def yX8_init : MethodName := ⟨RX8, "<init>", "(LFormatDump$Row;LFormatDump$Arguments;LFormatDump$Figures;)V"⟩
abbrev cX8_faultIn : ByteArray := prog_10_method_2_code
def yX8_faultIn : MethodName := ⟨RX8, "faultIn", "(LFormatDump$Row;)I"⟩
abbrev cX8_begin : ByteArray := prog_10_method_3_code
def yX8_begin : MethodName := ⟨RX8, "begin", "()V"⟩
abbrev cX8_hasEnded : ByteArray := prog_10_method_4_code
def yX8_hasEnded : MethodName := ⟨RX8, "hasEnded", "()Z"⟩
abbrev cX8_printOnce : ByteArray := prog_10_method_5_code
def yX8_printOnce : MethodName := ⟨RX8, "printOnce", "(LFormatDump$Row;)V"⟩
abbrev cX8_readPiece : ByteArray := prog_10_method_6_code
def yX8_readPiece : MethodName := ⟨RX8, "readPiece", "(LFormatDump$Row;I)I"⟩
abbrev cX8_printDirective : ByteArray := prog_10_method_7_code
def yX8_printDirective : MethodName := ⟨RX8, "printDirective", "()V"⟩
abbrev cX8_loadCharacter : ByteArray := prog_10_method_8_code
def yX8_loadCharacter : MethodName := ⟨RX8, "loadCharacter", "(LFormatDump$Argument;)V"⟩
abbrev cX8_loadText : ByteArray := prog_10_method_9_code
def yX8_loadText : MethodName := ⟨RX8, "loadText", "(LFormatDump$Argument;)V"⟩
abbrev cX8_loadNumber : ByteArray := prog_10_method_10_code
def yX8_loadNumber : MethodName := ⟨RX8, "loadNumber", "(J)V"⟩
abbrev cX8_unescapePiece : ByteArray := prog_10_method_11_code
def yX8_unescapePiece : MethodName := ⟨RX8, "unescapePiece", "()V"⟩
abbrev cX8_keepPrecision : ByteArray := prog_10_method_12_code
def yX8_keepPrecision : MethodName := ⟨RX8, "keepPrecision", "()V"⟩
abbrev cX8_printFilled : ByteArray := prog_10_method_13_code
def yX8_printFilled : MethodName := ⟨RX8, "printFilled", "()V"⟩
abbrev cX8_printNumber : ByteArray := prog_10_method_14_code
def yX8_printNumber : MethodName := ⟨RX8, "printNumber", "(J)V"⟩
abbrev cX8_narrowed : ByteArray := prog_10_method_15_code
def yX8_narrowed : MethodName := ⟨RX8, "narrowed", "(J)J"⟩
abbrev cX8_digitsDue : ByteArray := prog_10_method_16_code
def yX8_digitsDue : MethodName := ⟨RX8, "digitsDue", "()I"⟩
abbrev cX8_signOf : ByteArray := prog_10_method_17_code
def yX8_signOf : MethodName := ⟨RX8, "signOf", "(Z)I"⟩
def RX9 : String := "FormatDump$Row"
def TX9 : u_T := fun k => match k with
  | 0 => ("FormatDump$Row", "cells", "[I", true)
  | 1 => ("FormatDump$Row", "limit", "I", false)
  | 2 => ("FormatDump$Row", "size", "I", false)
  | _ => ("FormatDump$Row", "over", "Z", false)
def tyX9 : Nat → FieldType := fun k => match k with
  | 0 => .array .int
  | 1 => .int
  | 2 => .int
  | _ => .boolean
abbrev wsX90 : List Cond := u_ws RX9 TX9 4
theorem nmX9 : ∀ a, a < 4 → ∀ b, b < 4 → a ≠ b → (TX9 a).2.1 ≠ (TX9 b).2.1 := by decide +kernel
theorem tyX9_ok : ∀ k, k < 4 → parseFieldDescriptor (TX9 k).2.2.1 = some (tyX9 k) := by decide +kernel
abbrev cX9_init : ByteArray := prog_11_method_1_code
def yX9_init : MethodName := ⟨RX9, "<init>", "(I)V"⟩
abbrev cX9_size : ByteArray := prog_11_method_2_code
def yX9_size : MethodName := ⟨RX9, "size", "()I"⟩
abbrev cX9_isOver : ByteArray := prog_11_method_3_code
def yX9_isOver : MethodName := ⟨RX9, "isOver", "()Z"⟩
abbrev cX9_clear : ByteArray := prog_11_method_4_code
def yX9_clear : MethodName := ⟨RX9, "clear", "()V"⟩
abbrev cX9_limitTo : ByteArray := prog_11_method_5_code
def yX9_limitTo : MethodName := ⟨RX9, "limitTo", "(I)V"⟩
abbrev cX9_add : ByteArray := prog_11_method_6_code
def yX9_add : MethodName := ⟨RX9, "add", "(I)V"⟩
abbrev cX9_addMany : ByteArray := prog_11_method_7_code
def yX9_addMany : MethodName := ⟨RX9, "addMany", "(II)V"⟩
abbrev cX9_at : ByteArray := prog_11_method_8_code
def yX9_at : MethodName := ⟨RX9, "at", "(I)I"⟩
abbrev cX9_change : ByteArray := prog_11_method_9_code
def yX9_change : MethodName := ⟨RX9, "change", "(II)V"⟩
abbrev cX9_keepFirst : ByteArray := prog_11_method_10_code
def yX9_keepFirst : MethodName := ⟨RX9, "keepFirst", "(I)I"⟩
abbrev cX9_copyOf : ByteArray := prog_11_method_11_code
def yX9_copyOf : MethodName := ⟨RX9, "copyOf", "(LFormatDump$Row;)V"⟩
def RX10 : String := "FormatDump$WordDump"
def TX10 : u_T := fun k => match k with
  | 0 => ("FormatDump$WordDump", "page", "LFormatDump$Row;", true)
  | 1 => ("FormatDump$WordDump", "bytes", "LFormatDump$Row;", true)
  | 2 => ("FormatDump$WordDump", "figures", "LFormatDump$Figures;", true)
  | 3 => ("FormatDump$WordDump", "field", "LFormatDump$Row;", true)
  | 4 => ("FormatDump$WordDump", "addressBase", "I", false)
  | 5 => ("FormatDump$WordDump", "letter", "C", false)
  | _ => ("FormatDump$WordDump", "wordSize", "I", false)
def tyX10 : Nat → FieldType := fun k => match k with
  | 0 => .object "FormatDump$Row"
  | 1 => .object "FormatDump$Row"
  | 2 => .object "FormatDump$Figures"
  | 3 => .object "FormatDump$Row"
  | 4 => .int
  | 5 => .char
  | _ => .int
abbrev wsX100 : List Cond := u_ws RX10 TX10 7
theorem nmX10 : ∀ a, a < 7 → ∀ b, b < 7 → a ≠ b → (TX10 a).2.1 ≠ (TX10 b).2.1 := by decide +kernel
theorem tyX10_ok : ∀ k, k < 7 → parseFieldDescriptor (TX10 k).2.2.1 = some (tyX10 k) := by decide +kernel
abbrev cX10_init : ByteArray := prog_12_method_1_code
def yX10_init : MethodName := ⟨RX10, "<init>", "(LFormatDump$Row;LFormatDump$Row;LFormatDump$Figures;)V"⟩
abbrev cX10_dump : ByteArray := prog_12_method_2_code
def yX10_dump : MethodName := ⟨RX10, "dump", "(ICIZ)V"⟩
abbrev cX10_isLikeBefore : ByteArray := prog_12_method_3_code
def yX10_isLikeBefore : MethodName := ⟨RX10, "isLikeBefore", "(I)Z"⟩
abbrev cX10_writeLine : ByteArray := prog_12_method_4_code
def yX10_writeLine : MethodName := ⟨RX10, "writeLine", "(I)V"⟩
abbrev cX10_writeAddress : ByteArray := prog_12_method_5_code
def yX10_writeAddress : MethodName := ⟨RX10, "writeAddress", "(I)V"⟩
abbrev cX10_wordAt : ByteArray := prog_12_method_6_code
def yX10_wordAt : MethodName := ⟨RX10, "wordAt", "(I)J"⟩
abbrev cX10_writeField : ByteArray := prog_12_method_7_code
def yX10_writeField : MethodName := ⟨RX10, "writeField", "(J)V"⟩
abbrev cX10_loadNumber : ByteArray := prog_12_method_8_code
def yX10_loadNumber : MethodName := ⟨RX10, "loadNumber", "(J)V"⟩
abbrev cX10_loadCharacter : ByteArray := prog_12_method_9_code
def yX10_loadCharacter : MethodName := ⟨RX10, "loadCharacter", "(I)V"⟩
abbrev cX10_nameOf : ByteArray := prog_12_method_10_code
def yX10_nameOf : MethodName := ⟨RX10, "nameOf", "(I)I"⟩
abbrev cX10_fieldBase : ByteArray := prog_12_method_11_code
def yX10_fieldBase : MethodName := ⟨RX10, "fieldBase", "()I"⟩
abbrev cX10_leastDigits : ByteArray := prog_12_method_12_code
def yX10_leastDigits : MethodName := ⟨RX10, "leastDigits", "()I"⟩
abbrev cX10_fieldWidth : ByteArray := prog_12_method_13_code
def yX10_fieldWidth : MethodName := ⟨RX10, "fieldWidth", "()I"⟩
abbrev cX10_decimalWidth : ByteArray := prog_12_method_14_code
def yX10_decimalWidth : MethodName := ⟨RX10, "decimalWidth", "()I"⟩
def RX11 : String := "FormatDump"
def TX11 : u_T := fun k => match k with
  | 0 => ("FormatDump", "line", "LFormatDump$Row;", true)
  | 1 => ("FormatDump", "page", "LFormatDump$Row;", true)
  | 2 => ("FormatDump", "bytes", "LFormatDump$Row;", true)
  | 3 => ("FormatDump", "arguments", "LFormatDump$Arguments;", true)
  | 4 => ("FormatDump", "printer", "LFormatDump$Printer;", true)
  | 5 => ("FormatDump", "wordDump", "LFormatDump$WordDump;", true)
  | 6 => ("FormatDump", "pairDump", "LFormatDump$PairDump;", true)
  | 7 => ("FormatDump", "pairReader", "LFormatDump$PairReader;", true)
  | 8 => ("FormatDump", "faultPlace", "I", false)
  | _ => ("FormatDump", "oddTexts", "I", false)
def tyX11 : Nat → FieldType := fun k => match k with
  | 0 => .object "FormatDump$Row"
  | 1 => .object "FormatDump$Row"
  | 2 => .object "FormatDump$Row"
  | 3 => .object "FormatDump$Arguments"
  | 4 => .object "FormatDump$Printer"
  | 5 => .object "FormatDump$WordDump"
  | 6 => .object "FormatDump$PairDump"
  | 7 => .object "FormatDump$PairReader"
  | 8 => .int
  | _ => .int
abbrev wsX110 : List Cond := u_ws RX11 TX11 10
theorem nmX11 : ∀ a, a < 10 → ∀ b, b < 10 → a ≠ b → (TX11 a).2.1 ≠ (TX11 b).2.1 := by decide +kernel
theorem tyX11_ok : ∀ k, k < 10 → parseFieldDescriptor (TX11 k).2.2.1 = some (tyX11 k) := by decide +kernel
abbrev cX11_init : ByteArray := prog_1_method_1_code
def yX11_init : MethodName := ⟨RX11, "<init>", "()V"⟩
abbrev cX11_type : ByteArray := prog_1_method_2_code
def yX11_type : MethodName := ⟨RX11, "type", "(IIIII)I"⟩
abbrev cX11_erase : ByteArray := prog_1_method_3_code
def yX11_erase : MethodName := ⟨RX11, "erase", "()I"⟩
abbrev cX11_number : ByteArray := prog_1_method_4_code
def yX11_number : MethodName := ⟨RX11, "number", "(J)I"⟩
abbrev cX11_text : ByteArray := prog_1_method_5_code
def yX11_text : MethodName := ⟨RX11, "text", "()I"⟩
abbrev cX11_none : ByteArray := prog_1_method_6_code
def yX11_none : MethodName := ⟨RX11, "none", "()I"⟩
abbrev cX11_room : ByteArray := prog_1_method_7_code
def yX11_room : MethodName := ⟨RX11, "room", "(I)V"⟩
abbrev cX11_print : ByteArray := prog_1_method_8_code
def yX11_print : MethodName := ⟨RX11, "print", "()I"⟩
abbrev cX11_odd : ByteArray := prog_1_method_9_code
def yX11_odd : MethodName := ⟨RX11, "odd", "()I"⟩
abbrev cX11_feed : ByteArray := prog_1_method_10_code
def yX11_feed : MethodName := ⟨RX11, "feed", "(IIIII)I"⟩
abbrev cX11_cut : ByteArray := prog_1_method_11_code
def yX11_cut : MethodName := ⟨RX11, "cut", "(I)I"⟩
abbrev cX11_words : ByteArray := prog_1_method_12_code
def yX11_words : MethodName := ⟨RX11, "words", "(ICIZ)I"⟩
abbrev cX11_pairs : ByteArray := prog_1_method_13_code
def yX11_pairs : MethodName := ⟨RX11, "pairs", "(IIZ)I"⟩
abbrev cX11_back : ByteArray := prog_1_method_14_code
def yX11_back : MethodName := ⟨RX11, "back", "(II)I"⟩
abbrev cX11_patch : ByteArray := prog_1_method_15_code
def yX11_patch : MethodName := ⟨RX11, "patch", "(II)I"⟩
abbrev cX11_trim : ByteArray := prog_1_method_16_code
def yX11_trim : MethodName := ⟨RX11, "trim", "(I)I"⟩
abbrev cX11_place : ByteArray := prog_1_method_17_code
def yX11_place : MethodName := ⟨RX11, "place", "()I"⟩
abbrev cX11_output : ByteArray := prog_1_method_18_code
def yX11_output : MethodName := ⟨RX11, "output", "(I)I"⟩
abbrev cX11_data : ByteArray := prog_1_method_19_code
def yX11_data : MethodName := ⟨RX11, "data", "(I)I"⟩
abbrev cX11_byteOf : ByteArray := prog_1_method_20_code
def yX11_byteOf : MethodName := ⟨RX11, "byteOf", "(II)I"⟩
abbrev cX11_charactersIn : ByteArray := prog_1_method_21_code
def yX11_charactersIn : MethodName := ⟨RX11, "charactersIn", "(I)I"⟩
abbrev cX11_typeWord : ByteArray := prog_1_method_22_code
def yX11_typeWord : MethodName := ⟨RX11, "typeWord", "(I)V"⟩
abbrev cX11_feedWord : ByteArray := prog_1_method_23_code
def yX11_feedWord : MethodName := ⟨RX11, "feedWord", "(II)V"⟩
abbrev cX11_answerOfPage : ByteArray := prog_1_method_24_code
def yX11_answerOfPage : MethodName := ⟨RX11, "answerOfPage", "()I"⟩
abbrev cX11_isAddressBase : ByteArray := prog_1_method_25_code
def yX11_isAddressBase : MethodName := ⟨RX11, "isAddressBase", "(I)Z"⟩
abbrev cX11_isWord : ByteArray := prog_1_method_26_code
def yX11_isWord : MethodName := ⟨RX11, "isWord", "(CI)Z"⟩
abbrev cX11_isShape : ByteArray := prog_1_method_27_code
def yX11_isShape : MethodName := ⟨RX11, "isShape", "(II)Z"⟩
abbrev cX11_groupOf : ByteArray := prog_1_method_28_code
def yX11_groupOf : MethodName := ⟨RX11, "groupOf", "(II)I"⟩
abbrev cX11_digitOf : ByteArray := prog_1_method_29_code
def yX11_digitOf : MethodName := ⟨RX11, "digitOf", "(II)I"⟩
abbrev cX11_canBeSeen : ByteArray := prog_1_method_30_code
def yX11_canBeSeen : MethodName := ⟨RX11, "canBeSeen", "(I)Z"⟩
abbrev cX11_seenAs : ByteArray := prog_1_method_31_code
def yX11_seenAs : MethodName := ⟨RX11, "seenAs", "(I)I"⟩
abbrev cX11_pairsWidth : ByteArray := prog_1_method_32_code
def yX11_pairsWidth : MethodName := ⟨RX11, "pairsWidth", "(II)I"⟩
abbrev cX11_endsGroup : ByteArray := prog_1_method_33_code
def yX11_endsGroup : MethodName := ⟨RX11, "endsGroup", "(III)Z"⟩
def RX12 : String := "FormatDumpModel"
def TX12 : u_T := fun k => match k with
  | 0 => ("FormatDumpModel", "fault", "I", false)
  | 1 => ("FormatDumpModel", "line", "[C", true)
  | 2 => ("FormatDumpModel", "lineSize", "I", false)
  | 3 => ("FormatDumpModel", "arguments", "I", false)
  | 4 => ("FormatDumpModel", "isText", "[Z", true)
  | 5 => ("FormatDumpModel", "numbers", "[J", true)
  | 6 => ("FormatDumpModel", "textSize", "[I", true)
  | 7 => ("FormatDumpModel", "texts", "[C", true)
  | 8 => ("FormatDumpModel", "dataSize", "I", false)
  | 9 => ("FormatDumpModel", "bytes", "[I", true)
  | 10 => ("FormatDumpModel", "room", "I", false)
  | 11 => ("FormatDumpModel", "outSize", "I", false)
  | 12 => ("FormatDumpModel", "out", "[C", true)
  | 13 => ("FormatDumpModel", "isFull", "Z", false)
  | 14 => ("FormatDumpModel", "faultPlace", "I", false)
  | 15 => ("FormatDumpModel", "odds", "I", false)
  | 16 => ("FormatDumpModel", "oddNow", "I", false)
  | 17 => ("FormatDumpModel", "next", "I", false)
  | 18 => ("FormatDumpModel", "ends", "Z", false)
  | 19 => ("FormatDumpModel", "at", "I", false)
  | 20 => ("FormatDumpModel", "minus", "Z", false)
  | 21 => ("FormatDumpModel", "plus", "Z", false)
  | 22 => ("FormatDumpModel", "blank", "Z", false)
  | 23 => ("FormatDumpModel", "sharp", "Z", false)
  | 24 => ("FormatDumpModel", "zero", "Z", false)
  | 25 => ("FormatDumpModel", "width", "I", false)
  | 26 => ("FormatDumpModel", "precision", "I", false)
  | 27 => ("FormatDumpModel", "bits", "I", false)
  | 28 => ("FormatDumpModel", "kind", "C", false)
  | 29 => ("FormatDumpModel", "row", "[C", true)
  | 30 => ("FormatDumpModel", "rowSize", "I", false)
  | 31 => ("FormatDumpModel", "digits", "[C", true)
  | 32 => ("FormatDumpModel", "digitCount", "I", false)
  | 33 => ("FormatDumpModel", "found", "[I", true)
  | 34 => ("FormatDumpModel", "foundSize", "I", false)
  | _ => ("FormatDumpModel", "read", "I", false)
def tyX12 : Nat → FieldType := fun k => match k with
  | 0 => .int
  | 1 => .array .char
  | 2 => .int
  | 3 => .int
  | 4 => .array .boolean
  | 5 => .array .long
  | 6 => .array .int
  | 7 => .array .char
  | 8 => .int
  | 9 => .array .int
  | 10 => .int
  | 11 => .int
  | 12 => .array .char
  | 13 => .boolean
  | 14 => .int
  | 15 => .int
  | 16 => .int
  | 17 => .int
  | 18 => .boolean
  | 19 => .int
  | 20 => .boolean
  | 21 => .boolean
  | 22 => .boolean
  | 23 => .boolean
  | 24 => .boolean
  | 25 => .int
  | 26 => .int
  | 27 => .int
  | 28 => .char
  | 29 => .array .char
  | 30 => .int
  | 31 => .array .char
  | 32 => .int
  | 33 => .array .int
  | 34 => .int
  | _ => .int
abbrev wsX120 : List Cond := u_ws RX12 TX12 36
theorem nmX12 : ∀ a, a < 36 → ∀ b, b < 36 → a ≠ b → (TX12 a).2.1 ≠ (TX12 b).2.1 := by decide +kernel
theorem tyX12_ok : ∀ k, k < 36 → parseFieldDescriptor (TX12 k).2.2.1 = some (tyX12 k) := by decide +kernel
abbrev cX12_init : ByteArray := prog_14_method_1_code
def yX12_init : MethodName := ⟨RX12, "<init>", "()V"⟩
abbrev cX12_thrown : ByteArray := prog_14_method_2_code
def yX12_thrown : MethodName := ⟨RX12, "thrown", "()I"⟩
abbrev cX12_refused : ByteArray := prog_14_method_3_code
def yX12_refused : MethodName := ⟨RX12, "refused", "(I)Z"⟩
abbrev cX12_isIn : ByteArray := prog_14_method_4_code
def yX12_isIn : MethodName := ⟨RX12, "isIn", "(III)Z"⟩
abbrev cX12_typed : ByteArray := prog_14_method_5_code
def yX12_typed : MethodName := ⟨RX12, "typed", "(II)I"⟩
abbrev cX12_type : ByteArray := prog_14_method_6_code
def yX12_type : MethodName := ⟨RX12, "type", "(IIIII)I"⟩
abbrev cX12_erase : ByteArray := prog_14_method_7_code
def yX12_erase : MethodName := ⟨RX12, "erase", "()I"⟩
abbrev cX12_number : ByteArray := prog_14_method_8_code
def yX12_number : MethodName := ⟨RX12, "number", "(J)I"⟩
abbrev cX12_text : ByteArray := prog_14_method_9_code
def yX12_text : MethodName := ⟨RX12, "text", "()I"⟩
abbrev cX12_none : ByteArray := prog_14_method_10_code
def yX12_none : MethodName := ⟨RX12, "none", "()I"⟩
abbrev cX12_room : ByteArray := prog_14_method_11_code
def yX12_room : MethodName := ⟨RX12, "room", "(I)V"⟩
abbrev cX12_put : ByteArray := prog_14_method_12_code
def yX12_put : MethodName := ⟨RX12, "put", "(I)V"⟩
abbrev cX12_begin : ByteArray := prog_14_method_13_code
def yX12_begin : MethodName := ⟨RX12, "begin", "()V"⟩
abbrev cX12_end : ByteArray := prog_14_method_14_code
def yX12_end : MethodName := ⟨RX12, "end", "()I"⟩
abbrev cX12_digit : ByteArray := prog_14_method_15_code
def yX12_digit : MethodName := ⟨RX12, "digit", "(IZ)C"⟩
abbrev cX12_reckon : ByteArray := prog_14_method_16_code
def yX12_reckon : MethodName := ⟨RX12, "reckon", "(JIZ)V"⟩
abbrev cX12_fill : ByteArray := prog_14_method_17_code
def yX12_fill : MethodName := ⟨RX12, "fill", "(I)V"⟩
abbrev cX12_putDigits : ByteArray := prog_14_method_18_code
def yX12_putDigits : MethodName := ⟨RX12, "putDigits", "()V"⟩
abbrev cX12_putMany : ByteArray := prog_14_method_19_code
def yX12_putMany : MethodName := ⟨RX12, "putMany", "(II)V"⟩
abbrev cX12_charAt : ByteArray := prog_14_method_20_code
def yX12_charAt : MethodName := ⟨RX12, "charAt", "(I)C"⟩
abbrev cX12_isOctal : ByteArray := prog_14_method_21_code
def yX12_isOctal : MethodName := ⟨RX12, "isOctal", "(C)Z"⟩
abbrev cX12_escapeOf : ByteArray := prog_14_method_22_code
def yX12_escapeOf : MethodName := ⟨RX12, "escapeOf", "(C)I"⟩
abbrev cX12_readDirective : ByteArray := prog_14_method_23_code
def yX12_readDirective : MethodName := ⟨RX12, "readDirective", "()Z"⟩
abbrev cX12_readTwo : ByteArray := prog_14_method_24_code
def yX12_readTwo : MethodName := ⟨RX12, "readTwo", "()I"⟩
abbrev cX12_readEscape : ByteArray := prog_14_method_25_code
def yX12_readEscape : MethodName := ⟨RX12, "readEscape", "()I"⟩
abbrev cX12_badAt : ByteArray := prog_14_method_26_code
def yX12_badAt : MethodName := ⟨RX12, "badAt", "()I"⟩
abbrev cX12_baseDigit : ByteArray := prog_14_method_27_code
def yX12_baseDigit : MethodName := ⟨RX12, "baseDigit", "(CI)I"⟩
abbrev cX12_textAt : ByteArray := prog_14_method_28_code
def yX12_textAt : MethodName := ⟨RX12, "textAt", "(II)C"⟩
abbrev cX12_textNumber : ByteArray := prog_14_method_29_code
def yX12_textNumber : MethodName := ⟨RX12, "textNumber", "(I)J"⟩
abbrev cX12_takeNumber : ByteArray := prog_14_method_30_code
def yX12_takeNumber : MethodName := ⟨RX12, "takeNumber", "()J"⟩
abbrev cX12_takeText : ByteArray := prog_14_method_31_code
def yX12_takeText : MethodName := ⟨RX12, "takeText", "()V"⟩
abbrev cX12_cutTo : ByteArray := prog_14_method_32_code
def yX12_cutTo : MethodName := ⟨RX12, "cutTo", "(J)I"⟩
abbrev cX12_printWhole : ByteArray := prog_14_method_33_code
def yX12_printWhole : MethodName := ⟨RX12, "printWhole", "()V"⟩
abbrev cX12_printRow : ByteArray := prog_14_method_34_code
def yX12_printRow : MethodName := ⟨RX12, "printRow", "()V"⟩
abbrev cX12_undo : ByteArray := prog_14_method_35_code
def yX12_undo : MethodName := ⟨RX12, "undo", "()V"⟩
abbrev cX12_printDirective : ByteArray := prog_14_method_36_code
def yX12_printDirective : MethodName := ⟨RX12, "printDirective", "()V"⟩
abbrev cX12_noArgument : ByteArray := prog_14_method_37_code
def yX12_noArgument : MethodName := ⟨RX12, "noArgument", "()I"⟩
abbrev cX12_printOnce : ByteArray := prog_14_method_38_code
def yX12_printOnce : MethodName := ⟨RX12, "printOnce", "()V"⟩
abbrev cX12_print : ByteArray := prog_14_method_39_code
def yX12_print : MethodName := ⟨RX12, "print", "()I"⟩
abbrev cX12_odd : ByteArray := prog_14_method_40_code
def yX12_odd : MethodName := ⟨RX12, "odd", "()I"⟩
abbrev cX12_feed : ByteArray := prog_14_method_41_code
def yX12_feed : MethodName := ⟨RX12, "feed", "(IIIII)I"⟩
abbrev cX12_cut : ByteArray := prog_14_method_42_code
def yX12_cut : MethodName := ⟨RX12, "cut", "(I)I"⟩
abbrev cX12_putAddress : ByteArray := prog_14_method_43_code
def yX12_putAddress : MethodName := ⟨RX12, "putAddress", "(IIZ)V"⟩
abbrev cX12_index : ByteArray := prog_14_method_44_code
def yX12_index : MethodName := ⟨RX12, "index", "(I)I"⟩
abbrev cX12_choose : ByteArray := prog_14_method_45_code
def yX12_choose : MethodName := ⟨RX12, "choose", "(IIIII)I"⟩
abbrev cX12_putField : ByteArray := prog_14_method_46_code
def yX12_putField : MethodName := ⟨RX12, "putField", "(ICI)V"⟩
abbrev cX12_putShown : ByteArray := prog_14_method_47_code
def yX12_putShown : MethodName := ⟨RX12, "putShown", "(I)V"⟩
abbrev cX12_isLikeBefore : ByteArray := prog_14_method_48_code
def yX12_isLikeBefore : MethodName := ⟨RX12, "isLikeBefore", "(I)Z"⟩
abbrev cX12_words : ByteArray := prog_14_method_49_code
def yX12_words : MethodName := ⟨RX12, "words", "(ICIZ)I"⟩
abbrev cX12_isGroupEnd : ByteArray := prog_14_method_50_code
def yX12_isGroupEnd : MethodName := ⟨RX12, "isGroupEnd", "(III)Z"⟩
abbrev cX12_shown : ByteArray := prog_14_method_51_code
def yX12_shown : MethodName := ⟨RX12, "shown", "(I)C"⟩
abbrev cX12_pairs : ByteArray := prog_14_method_52_code
def yX12_pairs : MethodName := ⟨RX12, "pairs", "(IIZ)I"⟩
abbrev cX12_isNext : ByteArray := prog_14_method_53_code
def yX12_isNext : MethodName := ⟨RX12, "isNext", "(I)Z"⟩
abbrev cX12_hexAt : ByteArray := prog_14_method_54_code
def yX12_hexAt : MethodName := ⟨RX12, "hexAt", "(I)I"⟩
abbrev cX12_readLine : ByteArray := prog_14_method_55_code
def yX12_readLine : MethodName := ⟨RX12, "readLine", "(II)Z"⟩
abbrev cX12_back : ByteArray := prog_14_method_56_code
def yX12_back : MethodName := ⟨RX12, "back", "(II)I"⟩
abbrev cX12_patch : ByteArray := prog_14_method_57_code
def yX12_patch : MethodName := ⟨RX12, "patch", "(II)I"⟩
abbrev cX12_trim : ByteArray := prog_14_method_58_code
def yX12_trim : MethodName := ⟨RX12, "trim", "(I)I"⟩
abbrev cX12_place : ByteArray := prog_14_method_59_code
def yX12_place : MethodName := ⟨RX12, "place", "()I"⟩
abbrev cX12_output : ByteArray := prog_14_method_60_code
def yX12_output : MethodName := ⟨RX12, "output", "(I)I"⟩
abbrev cX12_data : ByteArray := prog_14_method_61_code
def yX12_data : MethodName := ⟨RX12, "data", "(I)I"⟩
def RJ9 : String := "java/lang/Math"
def TJ9 : u_T := fun k => match k with
  | _ => ("", "", "", false)
def tyJ9 : Nat → FieldType := fun k => match k with
  | _ => .int
abbrev wsJ90 : List Cond := u_ws RJ9 TJ9 0
theorem nmJ9 : ∀ a, a < 0 → ∀ b, b < 0 → a ≠ b → (TJ9 a).2.1 ≠ (TJ9 b).2.1 := by decide +kernel
theorem tyJ9_ok : ∀ k, k < 0 → parseFieldDescriptor (TJ9 k).2.2.1 = some (tyJ9 k) := by decide +kernel
abbrev cJ9_max_7cf53 : ByteArray := prog_19_method_65_code
def yJ9_max_7cf53 : MethodName := ⟨RJ9, "max", "(II)I"⟩
abbrev cJ9_max_f86c9 : ByteArray := prog_19_method_66_code
def yJ9_max_f86c9 : MethodName := ⟨RJ9, "max", "(JJ)J"⟩
abbrev cJ9_min_7cf53 : ByteArray := prog_19_method_69_code
def yJ9_min_7cf53 : MethodName := ⟨RJ9, "min", "(II)I"⟩
abbrev cJ9_min_f86c9 : ByteArray := prog_19_method_70_code
def yJ9_min_f86c9 : MethodName := ⟨RJ9, "min", "(JJ)J"⟩
def RL : String := "FormatDumpLaw"
abbrev cL_type : ByteArray := method_3_code
def yL_type : MethodName := ⟨RL, "type", "(LFormatDump;IIIII[J)I"⟩
abbrev cL_number : ByteArray := method_4_code
def yL_number : MethodName := ⟨RL, "number", "(LFormatDump;J[J)I"⟩
abbrev cL_text : ByteArray := method_5_code
def yL_text : MethodName := ⟨RL, "text", "(LFormatDump;[J)I"⟩
abbrev cL_room : ByteArray := method_6_code
def yL_room : MethodName := ⟨RL, "room", "(LFormatDump;I)I"⟩
abbrev cL_feed : ByteArray := method_7_code
def yL_feed : MethodName := ⟨RL, "feed", "(LFormatDump;IIIII[J)I"⟩
abbrev cL_cut : ByteArray := method_8_code
def yL_cut : MethodName := ⟨RL, "cut", "(LFormatDump;I[J)I"⟩
abbrev cL_words : ByteArray := method_9_code
def yL_words : MethodName := ⟨RL, "words", "(LFormatDump;ICIZ[J)I"⟩
abbrev cL_pairs : ByteArray := method_10_code
def yL_pairs : MethodName := ⟨RL, "pairs", "(LFormatDump;IIZ[J)I"⟩
abbrev cL_back : ByteArray := method_11_code
def yL_back : MethodName := ⟨RL, "back", "(LFormatDump;II[J)I"⟩
abbrev cL_patch : ByteArray := method_12_code
def yL_patch : MethodName := ⟨RL, "patch", "(LFormatDump;II[J)I"⟩
abbrev cL_trim : ByteArray := method_13_code
def yL_trim : MethodName := ⟨RL, "trim", "(LFormatDump;I[J)I"⟩
abbrev cL_law : ByteArray := code
def yL_law : MethodName := ⟨RL, "law", "([I)Z"⟩
def wsX9_init : List Cond := .code yX9_init cX9_init 2 none :: ([.methodLink RX9 3 objectInit, .instanceMethod objectInit, .code objectInit ⟨#[0xb1]⟩ 1 none, .arrayClass .int, .fieldLink RX9 9 "FormatDump$Row" "cells" "[I", .fieldLink RX9 15 "FormatDump$Row" "limit" "I", .fieldLink RX9 19 "FormatDump$Row" "size" "I", .fieldLink RX9 22 "FormatDump$Row" "over" "Z"] ++ wsX90)
def wsX0_init : List Cond := .code yX0_init cX0_init 1 none :: ([.methodLink RX0 3 objectInit, .instanceMethod objectInit, .code objectInit ⟨#[0xb1]⟩ 1 none, .classLink RX0 9 RX9, .instantiable RX9 4, .initialized RX9, .fieldLink RX0 14 "FormatDump$Argument" "characters" "LFormatDump$Row;", .fieldLink RX0 20 "FormatDump$Argument" "isText" "Z", .fieldLink RX0 24 "FormatDump$Argument" "value" "J", .methodLink RX0 11 yX9_init, .instanceMethod yX9_init, .code yX9_init cX9_init 2 none, .methodLink RX9 3 objectInit, .arrayClass .int, .fieldLink RX9 9 "FormatDump$Row" "cells" "[I", .fieldLink RX9 15 "FormatDump$Row" "limit" "I", .fieldLink RX9 19 "FormatDump$Row" "size" "I", .fieldLink RX9 22 "FormatDump$Row" "over" "Z"] ++ wsX90 ++ wsX00)
def wsX5_init : List Cond := .code yX5_init cX5_init 1 none :: ([.methodLink RX5 3 objectInit, .instanceMethod objectInit, .code objectInit ⟨#[0xb1]⟩ 1 none, .fieldLink RX5 9 "FormatDump$NumberReading" "value" "J", .fieldLink RX5 15 "FormatDump$NumberReading" "odd" "Z"] ++ wsX50)
def wsX1_init_r1 : List Cond := [Cond.methodLink RX1 3 objectInit, Cond.instanceMethod objectInit, Cond.code objectInit ⟨#[0xb1]⟩ 1 none, Cond.classLink RX1 9 RX0, Cond.fieldLink RX1 11 "FormatDump$Arguments" "all" "[LFormatDump$Argument;", Cond.instantiable RX0 3, Cond.initialized RX0, Cond.classLink RX1 18 RX5, Cond.instantiable RX5 2, Cond.initialized RX5, Cond.fieldLink RX1 21 "FormatDump$Arguments" "reading" "LFormatDump$NumberReading;", Cond.fieldLink RX1 25 "FormatDump$Arguments" "count" "I", Cond.fieldLink RX1 29 "FormatDump$Arguments" "taken" "I", Cond.fieldLink RX1 32 "FormatDump$Arguments" "oddTexts" "I", Cond.methodLink RX1 17 yX0_init, Cond.instanceMethod yX0_init, Cond.code yX0_init cX0_init 1 none, Cond.methodLink RX0 3 objectInit, Cond.classLink RX0 9 RX9, Cond.instantiable RX9 4, Cond.initialized RX9, Cond.fieldLink RX0 14 "FormatDump$Argument" "characters" "LFormatDump$Row;", Cond.fieldLink RX0 20 "FormatDump$Argument" "isText" "Z", Cond.fieldLink RX0 24 "FormatDump$Argument" "value" "J"]
def wsX1_init_r2 : List Cond := [Cond.methodLink RX0 11 yX9_init, Cond.instanceMethod yX9_init, Cond.code yX9_init cX9_init 2 none, Cond.methodLink RX9 3 objectInit, Cond.arrayClass .int, Cond.fieldLink RX9 9 "FormatDump$Row" "cells" "[I", Cond.fieldLink RX9 15 "FormatDump$Row" "limit" "I", Cond.fieldLink RX9 19 "FormatDump$Row" "size" "I", Cond.fieldLink RX9 22 "FormatDump$Row" "over" "Z", Cond.methodLink RX1 20 yX5_init, Cond.instanceMethod yX5_init, Cond.code yX5_init cX5_init 1 none, Cond.methodLink RX5 3 objectInit, Cond.fieldLink RX5 9 "FormatDump$NumberReading" "value" "J", Cond.fieldLink RX5 15 "FormatDump$NumberReading" "odd" "Z"]
def wsX1_init : List Cond := .code yX1_init cX1_init 2 none :: ((wsX1_init_r1 ++ wsX1_init_r2) ++ wsX10 ++ wsX00 ++ wsX50 ++ wsX90)
def wsX1_count : List Cond := .code yX1_count cX1_count 1 (some .int) :: ([.fieldLink RX1 25 "FormatDump$Arguments" "count" "I"] ++ wsX10)
def wsX1_taken : List Cond := .code yX1_taken cX1_taken 1 (some .int) :: ([.fieldLink RX1 29 "FormatDump$Arguments" "taken" "I"] ++ wsX10)
def wsX1_oddTexts : List Cond := .code yX1_oddTexts cX1_oddTexts 1 (some .int) :: ([.fieldLink RX1 32 "FormatDump$Arguments" "oddTexts" "I"] ++ wsX10)
def wsX1_clear : List Cond := .code yX1_clear cX1_clear 1 none :: ([.fieldLink RX1 25 "FormatDump$Arguments" "count" "I"] ++ wsX10)
def wsX1_addNumber : List Cond := .code yX1_addNumber cX1_addNumber 3 none :: ([.fieldLink RX1 25 "FormatDump$Arguments" "count" "I", .fieldLink RX1 11 "FormatDump$Arguments" "all" "[LFormatDump$Argument;", .fieldLink RX1 35 "FormatDump$Argument" "isText" "Z", .fieldLink RX1 39 "FormatDump$Argument" "value" "J"] ++ wsX10 ++ wsX00)
def wsX9_clear : List Cond := .code yX9_clear cX9_clear 1 none :: ([.fieldLink RX9 19 "FormatDump$Row" "size" "I", .fieldLink RX9 22 "FormatDump$Row" "over" "Z"] ++ wsX90)
def wsX9_size : List Cond := .code yX9_size cX9_size 1 (some .int) :: ([.fieldLink RX9 19 "FormatDump$Row" "size" "I"] ++ wsX90)
def wsX9_at : List Cond := .code yX9_at cX9_at 2 (some .int) :: ([.fieldLink RX9 19 "FormatDump$Row" "size" "I", .fieldLink RX9 9 "FormatDump$Row" "cells" "[I"] ++ wsX90)
def wsX9_add : List Cond := .code yX9_add cX9_add 2 none :: ([.fieldLink RX9 19 "FormatDump$Row" "size" "I", .fieldLink RX9 15 "FormatDump$Row" "limit" "I", .fieldLink RX9 9 "FormatDump$Row" "cells" "[I", .fieldLink RX9 22 "FormatDump$Row" "over" "Z"] ++ wsX90)
def wsX9_copyOf : List Cond := .code yX9_copyOf cX9_copyOf 3 none :: ([.methodLink RX9 39 yX9_clear, .instanceMethod yX9_clear, .selects RX9 yX9_clear yX9_clear, .initialized RX9, .code yX9_clear cX9_clear 1 none, .fieldLink RX9 19 "FormatDump$Row" "size" "I", .fieldLink RX9 22 "FormatDump$Row" "over" "Z", .methodLink RX9 42 yX9_size, .instanceMethod yX9_size, .selects RX9 yX9_size yX9_size, .code yX9_size cX9_size 1 (some .int), .methodLink RX9 45 yX9_at, .instanceMethod yX9_at, .selects RX9 yX9_at yX9_at, .code yX9_at cX9_at 2 (some .int), .fieldLink RX9 9 "FormatDump$Row" "cells" "[I", .methodLink RX9 35 yX9_add, .instanceMethod yX9_add, .selects RX9 yX9_add yX9_add, .code yX9_add cX9_add 2 none, .fieldLink RX9 15 "FormatDump$Row" "limit" "I"] ++ wsX90)
def wsX1_addText_r1 : List Cond := [Cond.fieldLink RX1 25 "FormatDump$Arguments" "count" "I", Cond.fieldLink RX1 11 "FormatDump$Arguments" "all" "[LFormatDump$Argument;", Cond.fieldLink RX1 35 "FormatDump$Argument" "isText" "Z", Cond.fieldLink RX1 43 "FormatDump$Argument" "characters" "LFormatDump$Row;", Cond.methodLink RX1 47 yX9_copyOf, Cond.instanceMethod yX9_copyOf, Cond.selects RX9 yX9_copyOf yX9_copyOf, Cond.initialized RX9, Cond.code yX9_copyOf cX9_copyOf 3 none, Cond.methodLink RX9 39 yX9_clear, Cond.instanceMethod yX9_clear, Cond.selects RX9 yX9_clear yX9_clear, Cond.code yX9_clear cX9_clear 1 none, Cond.fieldLink RX9 19 "FormatDump$Row" "size" "I", Cond.fieldLink RX9 22 "FormatDump$Row" "over" "Z", Cond.methodLink RX9 42 yX9_size, Cond.instanceMethod yX9_size, Cond.selects RX9 yX9_size yX9_size, Cond.code yX9_size cX9_size 1 (some .int), Cond.methodLink RX9 45 yX9_at, Cond.instanceMethod yX9_at, Cond.selects RX9 yX9_at yX9_at, Cond.code yX9_at cX9_at 2 (some .int), Cond.fieldLink RX9 9 "FormatDump$Row" "cells" "[I"]
def wsX1_addText_r2 : List Cond := [Cond.methodLink RX9 35 yX9_add, Cond.instanceMethod yX9_add, Cond.selects RX9 yX9_add yX9_add, Cond.code yX9_add cX9_add 2 none, Cond.fieldLink RX9 15 "FormatDump$Row" "limit" "I"]
def wsX1_addText : List Cond := .code yX1_addText cX1_addText 2 none :: ((wsX1_addText_r1 ++ wsX1_addText_r2) ++ wsX10 ++ wsX00 ++ wsX90)
def wsX1_takeFromFront : List Cond := .code yX1_takeFromFront cX1_takeFromFront 1 none :: ([.fieldLink RX1 29 "FormatDump$Arguments" "taken" "I", .fieldLink RX1 32 "FormatDump$Arguments" "oddTexts" "I"] ++ wsX10)
def wsX1_takeNext : List Cond := .code yX1_takeNext cX1_takeNext 1 (some (.object "FormatDump$Argument")) :: ([.fieldLink RX1 29 "FormatDump$Arguments" "taken" "I", .fieldLink RX1 25 "FormatDump$Arguments" "count" "I", .fieldLink RX1 11 "FormatDump$Arguments" "all" "[LFormatDump$Argument;"] ++ wsX10)
def wsX5_readCharacter : List Cond := .code yX5_readCharacter cX5_readCharacter 2 none :: ([.fieldLink RX5 9 "FormatDump$NumberReading" "value" "J", .fieldLink RX5 15 "FormatDump$NumberReading" "odd" "Z", .methodLink RX5 37 yX9_size, .instanceMethod yX9_size, .selects RX9 yX9_size yX9_size, .initialized RX9, .code yX9_size cX9_size 1 (some .int), .fieldLink RX9 19 "FormatDump$Row" "size" "I", .methodLink RX5 19 yX9_at, .instanceMethod yX9_at, .selects RX9 yX9_at yX9_at, .code yX9_at cX9_at 2 (some .int), .fieldLink RX9 9 "FormatDump$Row" "cells" "[I"] ++ wsX50 ++ wsX90)
def wsX11_digitOf : List Cond := .code yX11_digitOf cX11_digitOf 3 (some .int) :: ([])
def wsX5_readDigits : List Cond := .code yX5_readDigits cX5_readDigits 5 none :: ([.fieldLink RX5 9 "FormatDump$NumberReading" "value" "J", .fieldLink RX5 15 "FormatDump$NumberReading" "odd" "Z", .methodLink RX5 37 yX9_size, .instanceMethod yX9_size, .selects RX9 yX9_size yX9_size, .initialized RX9, .code yX9_size cX9_size 1 (some .int), .fieldLink RX9 19 "FormatDump$Row" "size" "I", .methodLink RX5 19 yX9_at, .instanceMethod yX9_at, .selects RX9 yX9_at yX9_at, .code yX9_at cX9_at 2 (some .int), .fieldLink RX9 9 "FormatDump$Row" "cells" "[I", .static yX11_digitOf, .initialized RX11, .code yX11_digitOf cX11_digitOf 3 (some .int)] ++ wsX50 ++ wsX90)
def wsX5_isHexadecimal : List Cond := .code yX5_isHexadecimal cX5_isHexadecimal 3 (some .boolean) :: ([.methodLink RX5 19 yX9_at, .instanceMethod yX9_at, .selects RX9 yX9_at yX9_at, .initialized RX9, .code yX9_at cX9_at 2 (some .int), .fieldLink RX9 19 "FormatDump$Row" "size" "I", .fieldLink RX9 9 "FormatDump$Row" "cells" "[I", .static yX11_digitOf, .initialized RX11, .code yX11_digitOf cX11_digitOf 3 (some .int)] ++ wsX90)
def wsX5_read_r1 : List Cond := [Cond.fieldLink RX5 9 "FormatDump$NumberReading" "value" "J", Cond.methodLink RX5 19 yX9_at, Cond.instanceMethod yX9_at, Cond.selects RX9 yX9_at yX9_at, Cond.initialized RX9, Cond.code yX9_at cX9_at 2 (some .int), Cond.fieldLink RX9 19 "FormatDump$Row" "size" "I", Cond.fieldLink RX9 9 "FormatDump$Row" "cells" "[I", Cond.methodLink RX5 25 yX5_readCharacter, Cond.instanceMethod yX5_readCharacter, Cond.selects RX5 yX5_readCharacter yX5_readCharacter, Cond.initialized RX5, Cond.code yX5_readCharacter cX5_readCharacter 2 none, Cond.fieldLink RX5 15 "FormatDump$NumberReading" "odd" "Z", Cond.methodLink RX5 37 yX9_size, Cond.instanceMethod yX9_size, Cond.selects RX9 yX9_size yX9_size, Cond.code yX9_size cX9_size 1 (some .int), Cond.methodLink RX5 29 yX5_readDigits, Cond.instanceMethod yX5_readDigits, Cond.selects RX5 yX5_readDigits yX5_readDigits, Cond.code yX5_readDigits cX5_readDigits 5 none, Cond.static yX11_digitOf, Cond.initialized RX11]
def wsX5_read_r2 : List Cond := [Cond.code yX11_digitOf cX11_digitOf 3 (some .int), Cond.methodLink RX5 33 yX5_isHexadecimal, Cond.static yX5_isHexadecimal, Cond.code yX5_isHexadecimal cX5_isHexadecimal 3 (some .boolean)]
def wsX5_read : List Cond := .code yX5_read cX5_read 4 none :: ((wsX5_read_r1 ++ wsX5_read_r2) ++ wsX50 ++ wsX90)
def wsX5_isOdd : List Cond := .code yX5_isOdd cX5_isOdd 1 (some .boolean) :: ([.fieldLink RX5 15 "FormatDump$NumberReading" "odd" "Z"] ++ wsX50)
def wsX5_value : List Cond := .code yX5_value cX5_value 1 (some .long) :: ([.fieldLink RX5 9 "FormatDump$NumberReading" "value" "J"] ++ wsX50)
def wsX1_takeNumber_r1 : List Cond := [Cond.fieldLink RX1 35 "FormatDump$Argument" "isText" "Z", Cond.fieldLink RX1 39 "FormatDump$Argument" "value" "J", Cond.fieldLink RX1 21 "FormatDump$Arguments" "reading" "LFormatDump$NumberReading;", Cond.fieldLink RX1 43 "FormatDump$Argument" "characters" "LFormatDump$Row;", Cond.fieldLink RX1 32 "FormatDump$Arguments" "oddTexts" "I", Cond.methodLink RX1 53 yX1_takeNext, Cond.instanceMethod yX1_takeNext, Cond.selects RX1 yX1_takeNext yX1_takeNext, Cond.initialized RX1, Cond.code yX1_takeNext cX1_takeNext 1 (some (.object "FormatDump$Argument")), Cond.fieldLink RX1 29 "FormatDump$Arguments" "taken" "I", Cond.fieldLink RX1 25 "FormatDump$Arguments" "count" "I", Cond.fieldLink RX1 11 "FormatDump$Arguments" "all" "[LFormatDump$Argument;", Cond.methodLink RX1 57 yX5_read, Cond.instanceMethod yX5_read, Cond.selects RX5 yX5_read yX5_read, Cond.initialized RX5, Cond.code yX5_read cX5_read 4 none, Cond.fieldLink RX5 9 "FormatDump$NumberReading" "value" "J", Cond.methodLink RX5 19 yX9_at, Cond.instanceMethod yX9_at, Cond.selects RX9 yX9_at yX9_at, Cond.initialized RX9, Cond.code yX9_at cX9_at 2 (some .int)]
def wsX1_takeNumber_r2 : List Cond := [Cond.fieldLink RX9 19 "FormatDump$Row" "size" "I", Cond.fieldLink RX9 9 "FormatDump$Row" "cells" "[I", Cond.methodLink RX5 25 yX5_readCharacter, Cond.instanceMethod yX5_readCharacter, Cond.selects RX5 yX5_readCharacter yX5_readCharacter, Cond.code yX5_readCharacter cX5_readCharacter 2 none, Cond.fieldLink RX5 15 "FormatDump$NumberReading" "odd" "Z", Cond.methodLink RX5 37 yX9_size, Cond.instanceMethod yX9_size, Cond.selects RX9 yX9_size yX9_size, Cond.code yX9_size cX9_size 1 (some .int), Cond.methodLink RX5 29 yX5_readDigits, Cond.instanceMethod yX5_readDigits, Cond.selects RX5 yX5_readDigits yX5_readDigits, Cond.code yX5_readDigits cX5_readDigits 5 none, Cond.static yX11_digitOf, Cond.initialized RX11, Cond.code yX11_digitOf cX11_digitOf 3 (some .int), Cond.methodLink RX5 33 yX5_isHexadecimal, Cond.static yX5_isHexadecimal, Cond.code yX5_isHexadecimal cX5_isHexadecimal 3 (some .boolean), Cond.methodLink RX1 60 yX5_isOdd, Cond.instanceMethod yX5_isOdd, Cond.selects RX5 yX5_isOdd yX5_isOdd]
def wsX1_takeNumber_r3 : List Cond := [Cond.code yX5_isOdd cX5_isOdd 1 (some .boolean), Cond.methodLink RX1 64 yX5_value, Cond.instanceMethod yX5_value, Cond.selects RX5 yX5_value yX5_value, Cond.code yX5_value cX5_value 1 (some .long)]
def wsX1_takeNumber : List Cond := .code yX1_takeNumber cX1_takeNumber 2 (some .long) :: ((wsX1_takeNumber_r1 ++ (wsX1_takeNumber_r2 ++ wsX1_takeNumber_r3)) ++ wsX00 ++ wsX10 ++ wsX50 ++ wsX90)
def wsX2_forget : List Cond := .code yX2_forget cX2_forget 1 none :: ([.fieldLink RX2 51 "FormatDump$Directive" "flagLeft" "Z", .fieldLink RX2 77 "FormatDump$Directive" "flagPlus" "Z", .fieldLink RX2 80 "FormatDump$Directive" "flagBlank" "Z", .fieldLink RX2 83 "FormatDump$Directive" "flagMark" "Z", .fieldLink RX2 47 "FormatDump$Directive" "flagZero" "Z", .fieldLink RX2 86 "FormatDump$Directive" "starWidth" "Z", .fieldLink RX2 89 "FormatDump$Directive" "starPrecision" "Z", .fieldLink RX2 61 "FormatDump$Directive" "width" "I", .fieldLink RX2 54 "FormatDump$Directive" "precision" "I", .fieldLink RX2 92 "FormatDump$Directive" "bits" "I", .fieldLink RX2 37 "FormatDump$Directive" "letter" "I", .fieldLink RX2 14 "FormatDump$Directive" "end" "I"] ++ wsX20)
def wsX2_init : List Cond := .code yX2_init cX2_init 1 none :: ([.methodLink RX2 3 objectInit, .instanceMethod objectInit, .code objectInit ⟨#[0xb1]⟩ 1 none, .methodLink RX2 9 yX2_forget, .instanceMethod yX2_forget, .selects RX2 yX2_forget yX2_forget, .initialized RX2, .code yX2_forget cX2_forget 1 none, .fieldLink RX2 51 "FormatDump$Directive" "flagLeft" "Z", .fieldLink RX2 77 "FormatDump$Directive" "flagPlus" "Z", .fieldLink RX2 80 "FormatDump$Directive" "flagBlank" "Z", .fieldLink RX2 83 "FormatDump$Directive" "flagMark" "Z", .fieldLink RX2 47 "FormatDump$Directive" "flagZero" "Z", .fieldLink RX2 86 "FormatDump$Directive" "starWidth" "Z", .fieldLink RX2 89 "FormatDump$Directive" "starPrecision" "Z", .fieldLink RX2 61 "FormatDump$Directive" "width" "I", .fieldLink RX2 54 "FormatDump$Directive" "precision" "I", .fieldLink RX2 92 "FormatDump$Directive" "bits" "I", .fieldLink RX2 37 "FormatDump$Directive" "letter" "I", .fieldLink RX2 14 "FormatDump$Directive" "end" "I"] ++ wsX20)
def wsX2_noteFlag : List Cond := .code yX2_noteFlag cX2_noteFlag 2 (some .boolean) :: ([.fieldLink RX2 51 "FormatDump$Directive" "flagLeft" "Z", .fieldLink RX2 77 "FormatDump$Directive" "flagPlus" "Z", .fieldLink RX2 80 "FormatDump$Directive" "flagBlank" "Z", .fieldLink RX2 83 "FormatDump$Directive" "flagMark" "Z", .fieldLink RX2 47 "FormatDump$Directive" "flagZero" "Z"] ++ wsX20)
def wsX2_readFlags : List Cond := .code yX2_readFlags cX2_readFlags 2 none :: ([.fieldLink RX2 14 "FormatDump$Directive" "end" "I", .methodLink RX2 95 yX9_size, .instanceMethod yX9_size, .selects RX9 yX9_size yX9_size, .initialized RX9, .code yX9_size cX9_size 1 (some .int), .fieldLink RX9 19 "FormatDump$Row" "size" "I", .methodLink RX2 31 yX9_at, .instanceMethod yX9_at, .selects RX9 yX9_at yX9_at, .code yX9_at cX9_at 2 (some .int), .fieldLink RX9 9 "FormatDump$Row" "cells" "[I", .methodLink RX2 99 yX2_noteFlag, .instanceMethod yX2_noteFlag, .selects RX2 yX2_noteFlag yX2_noteFlag, .initialized RX2, .code yX2_noteFlag cX2_noteFlag 2 (some .boolean), .fieldLink RX2 51 "FormatDump$Directive" "flagLeft" "Z", .fieldLink RX2 77 "FormatDump$Directive" "flagPlus" "Z", .fieldLink RX2 80 "FormatDump$Directive" "flagBlank" "Z", .fieldLink RX2 83 "FormatDump$Directive" "flagMark" "Z", .fieldLink RX2 47 "FormatDump$Directive" "flagZero" "Z"] ++ wsX20 ++ wsX90)
def wsX2_readTwoDigits : List Cond := .code yX2_readTwoDigits cX2_readTwoDigits 4 (some .int) :: ([.fieldLink RX2 14 "FormatDump$Directive" "end" "I", .methodLink RX2 31 yX9_at, .instanceMethod yX9_at, .selects RX9 yX9_at yX9_at, .initialized RX9, .code yX9_at cX9_at 2 (some .int), .fieldLink RX9 19 "FormatDump$Row" "size" "I", .fieldLink RX9 9 "FormatDump$Row" "cells" "[I", .static yX11_digitOf, .initialized RX11, .code yX11_digitOf cX11_digitOf 3 (some .int)] ++ wsX20 ++ wsX90)
def wsX2_readWidth : List Cond := .code yX2_readWidth cX2_readWidth 2 none :: ([.fieldLink RX2 14 "FormatDump$Directive" "end" "I", .fieldLink RX2 86 "FormatDump$Directive" "starWidth" "Z", .fieldLink RX2 61 "FormatDump$Directive" "width" "I", .methodLink RX2 31 yX9_at, .instanceMethod yX9_at, .selects RX9 yX9_at yX9_at, .initialized RX9, .code yX9_at cX9_at 2 (some .int), .fieldLink RX9 19 "FormatDump$Row" "size" "I", .fieldLink RX9 9 "FormatDump$Row" "cells" "[I", .methodLink RX2 103 yX2_readTwoDigits, .instanceMethod yX2_readTwoDigits, .selects RX2 yX2_readTwoDigits yX2_readTwoDigits, .initialized RX2, .code yX2_readTwoDigits cX2_readTwoDigits 4 (some .int), .static yX11_digitOf, .initialized RX11, .code yX11_digitOf cX11_digitOf 3 (some .int)] ++ wsX20 ++ wsX90)
def wsX2_readPrecision : List Cond := .code yX2_readPrecision cX2_readPrecision 2 none :: ([.fieldLink RX2 14 "FormatDump$Directive" "end" "I", .fieldLink RX2 89 "FormatDump$Directive" "starPrecision" "Z", .fieldLink RX2 54 "FormatDump$Directive" "precision" "I", .methodLink RX2 31 yX9_at, .instanceMethod yX9_at, .selects RX9 yX9_at yX9_at, .initialized RX9, .code yX9_at cX9_at 2 (some .int), .fieldLink RX9 19 "FormatDump$Row" "size" "I", .fieldLink RX9 9 "FormatDump$Row" "cells" "[I", .methodLink RX2 103 yX2_readTwoDigits, .instanceMethod yX2_readTwoDigits, .selects RX2 yX2_readTwoDigits yX2_readTwoDigits, .initialized RX2, .code yX2_readTwoDigits cX2_readTwoDigits 4 (some .int), .static yX11_digitOf, .initialized RX11, .code yX11_digitOf cX11_digitOf 3 (some .int)] ++ wsX20 ++ wsX90)
def wsX2_readLength : List Cond := .code yX2_readLength cX2_readLength 3 none :: ([.fieldLink RX2 14 "FormatDump$Directive" "end" "I", .fieldLink RX2 92 "FormatDump$Directive" "bits" "I", .methodLink RX2 31 yX9_at, .instanceMethod yX9_at, .selects RX9 yX9_at yX9_at, .initialized RX9, .code yX9_at cX9_at 2 (some .int), .fieldLink RX9 19 "FormatDump$Row" "size" "I", .fieldLink RX9 9 "FormatDump$Row" "cells" "[I"] ++ wsX20 ++ wsX90)
def wsX2_isLetter : List Cond := .code yX2_isLetter cX2_isLetter 1 (some .boolean) :: ([.fieldLink RX2 37 "FormatDump$Directive" "letter" "I"] ++ wsX20)
def wsX2_read_r1 : List Cond := [Cond.fieldLink RX2 14 "FormatDump$Directive" "end" "I", Cond.fieldLink RX2 37 "FormatDump$Directive" "letter" "I", Cond.methodLink RX2 9 yX2_forget, Cond.instanceMethod yX2_forget, Cond.selects RX2 yX2_forget yX2_forget, Cond.initialized RX2, Cond.code yX2_forget cX2_forget 1 none, Cond.fieldLink RX2 51 "FormatDump$Directive" "flagLeft" "Z", Cond.fieldLink RX2 77 "FormatDump$Directive" "flagPlus" "Z", Cond.fieldLink RX2 80 "FormatDump$Directive" "flagBlank" "Z", Cond.fieldLink RX2 83 "FormatDump$Directive" "flagMark" "Z", Cond.fieldLink RX2 47 "FormatDump$Directive" "flagZero" "Z", Cond.fieldLink RX2 86 "FormatDump$Directive" "starWidth" "Z", Cond.fieldLink RX2 89 "FormatDump$Directive" "starPrecision" "Z", Cond.fieldLink RX2 61 "FormatDump$Directive" "width" "I", Cond.fieldLink RX2 54 "FormatDump$Directive" "precision" "I", Cond.fieldLink RX2 92 "FormatDump$Directive" "bits" "I", Cond.methodLink RX2 18 yX2_readFlags, Cond.instanceMethod yX2_readFlags, Cond.selects RX2 yX2_readFlags yX2_readFlags, Cond.code yX2_readFlags cX2_readFlags 2 none, Cond.methodLink RX2 95 yX9_size, Cond.instanceMethod yX9_size, Cond.selects RX9 yX9_size yX9_size]
def wsX2_read_r2 : List Cond := [Cond.initialized RX9, Cond.code yX9_size cX9_size 1 (some .int), Cond.fieldLink RX9 19 "FormatDump$Row" "size" "I", Cond.methodLink RX2 31 yX9_at, Cond.instanceMethod yX9_at, Cond.selects RX9 yX9_at yX9_at, Cond.code yX9_at cX9_at 2 (some .int), Cond.fieldLink RX9 9 "FormatDump$Row" "cells" "[I", Cond.methodLink RX2 99 yX2_noteFlag, Cond.instanceMethod yX2_noteFlag, Cond.selects RX2 yX2_noteFlag yX2_noteFlag, Cond.code yX2_noteFlag cX2_noteFlag 2 (some .boolean), Cond.methodLink RX2 22 yX2_readWidth, Cond.instanceMethod yX2_readWidth, Cond.selects RX2 yX2_readWidth yX2_readWidth, Cond.code yX2_readWidth cX2_readWidth 2 none, Cond.methodLink RX2 103 yX2_readTwoDigits, Cond.instanceMethod yX2_readTwoDigits, Cond.selects RX2 yX2_readTwoDigits yX2_readTwoDigits, Cond.code yX2_readTwoDigits cX2_readTwoDigits 4 (some .int), Cond.static yX11_digitOf, Cond.initialized RX11, Cond.code yX11_digitOf cX11_digitOf 3 (some .int), Cond.methodLink RX2 25 yX2_readPrecision]
def wsX2_read_r3 : List Cond := [Cond.instanceMethod yX2_readPrecision, Cond.selects RX2 yX2_readPrecision yX2_readPrecision, Cond.code yX2_readPrecision cX2_readPrecision 2 none, Cond.methodLink RX2 28 yX2_readLength, Cond.instanceMethod yX2_readLength, Cond.selects RX2 yX2_readLength yX2_readLength, Cond.code yX2_readLength cX2_readLength 3 none, Cond.methodLink RX2 40 yX2_isLetter, Cond.instanceMethod yX2_isLetter, Cond.selects RX2 yX2_isLetter yX2_isLetter, Cond.code yX2_isLetter cX2_isLetter 1 (some .boolean)]
def wsX2_read : List Cond := .code yX2_read cX2_read 3 (some .boolean) :: ((wsX2_read_r1 ++ (wsX2_read_r2 ++ wsX2_read_r3)) ++ wsX20 ++ wsX90)
def wsX2_isSigned : List Cond := .code yX2_isSigned cX2_isSigned 1 (some .boolean) :: ([.fieldLink RX2 37 "FormatDump$Directive" "letter" "I"] ++ wsX20)
def wsX2_isHexadecimal : List Cond := .code yX2_isHexadecimal cX2_isHexadecimal 1 (some .boolean) :: ([.fieldLink RX2 37 "FormatDump$Directive" "letter" "I"] ++ wsX20)
def wsX2_base : List Cond := .code yX2_base cX2_base 1 (some .int) :: ([.fieldLink RX2 37 "FormatDump$Directive" "letter" "I", .methodLink RX2 44 yX2_isHexadecimal, .instanceMethod yX2_isHexadecimal, .selects RX2 yX2_isHexadecimal yX2_isHexadecimal, .initialized RX2, .code yX2_isHexadecimal cX2_isHexadecimal 1 (some .boolean)] ++ wsX20)
def wsX2_fillsWithZeros : List Cond := .code yX2_fillsWithZeros cX2_fillsWithZeros 1 (some .boolean) :: ([.fieldLink RX2 47 "FormatDump$Directive" "flagZero" "Z", .fieldLink RX2 51 "FormatDump$Directive" "flagLeft" "Z", .fieldLink RX2 54 "FormatDump$Directive" "precision" "I"] ++ wsX20)
def wsX2_cutToStar : List Cond := .code yX2_cutToStar cX2_cutToStar 2 (some .int) :: ([.constantLong RX2 64 (-99), .constantLong RX2 66 (99), .methodLink RX2 68 Lib.MathLoose.min_long.x, .static Lib.MathLoose.min_long.x, .initialized "java/lang/Math", .code Lib.MathLoose.min_long.x Lib.MathLoose.min_long.code 4 (some .long), .methodLink RX2 74 Lib.MathLoose.max_long.x, .static Lib.MathLoose.max_long.x, .code Lib.MathLoose.max_long.x Lib.MathLoose.max_long.code 4 (some .long)])
def wsX2_takeWidth : List Cond := .code yX2_takeWidth cX2_takeWidth 4 none :: ([.fieldLink RX2 51 "FormatDump$Directive" "flagLeft" "Z", .fieldLink RX2 61 "FormatDump$Directive" "width" "I", .methodLink RX2 57 yX2_cutToStar, .static yX2_cutToStar, .initialized RX2, .code yX2_cutToStar cX2_cutToStar 2 (some .int), .constantLong RX2 64 (-99), .constantLong RX2 66 (99), .methodLink RX2 68 Lib.MathLoose.min_long.x, .static Lib.MathLoose.min_long.x, .initialized "java/lang/Math", .code Lib.MathLoose.min_long.x Lib.MathLoose.min_long.code 4 (some .long), .methodLink RX2 74 Lib.MathLoose.max_long.x, .static Lib.MathLoose.max_long.x, .code Lib.MathLoose.max_long.x Lib.MathLoose.max_long.code 4 (some .long)] ++ wsX20)
def wsX2_takePrecision : List Cond := .code yX2_takePrecision cX2_takePrecision 3 none :: ([.fieldLink RX2 54 "FormatDump$Directive" "precision" "I", .methodLink RX2 57 yX2_cutToStar, .static yX2_cutToStar, .initialized RX2, .code yX2_cutToStar cX2_cutToStar 2 (some .int), .constantLong RX2 64 (-99), .constantLong RX2 66 (99), .methodLink RX2 68 Lib.MathLoose.min_long.x, .static Lib.MathLoose.min_long.x, .initialized "java/lang/Math", .code Lib.MathLoose.min_long.x Lib.MathLoose.min_long.code 4 (some .long), .methodLink RX2 74 Lib.MathLoose.max_long.x, .static Lib.MathLoose.max_long.x, .code Lib.MathLoose.max_long.x Lib.MathLoose.max_long.code 4 (some .long)] ++ wsX20)
def wsX3_init : List Cond := .code yX3_init cX3_init 1 none :: ([.methodLink RX3 3 objectInit, .instanceMethod objectInit, .code objectInit ⟨#[0xb1]⟩ 1 none, .fieldLink RX3 9 "FormatDump$Escape" "value" "I", .fieldLink RX3 15 "FormatDump$Escape" "end" "I"] ++ wsX30)
def wsX3_value : List Cond := .code yX3_value cX3_value 1 (some .int) :: ([.fieldLink RX3 9 "FormatDump$Escape" "value" "I"] ++ wsX30)
def wsX3_end : List Cond := .code yX3_end cX3_end 1 (some .int) :: ([.fieldLink RX3 15 "FormatDump$Escape" "end" "I"] ++ wsX30)
def wsX3_meaningOf : List Cond := .code yX3_meaningOf cX3_meaningOf 1 (some .int) :: ([])
def wsX3_readLetter : List Cond := .code yX3_readLetter cX3_readLetter 3 (some .boolean) :: ([.fieldLink RX3 9 "FormatDump$Escape" "value" "I", .fieldLink RX3 15 "FormatDump$Escape" "end" "I", .methodLink RX3 26 yX9_at, .instanceMethod yX9_at, .selects RX9 yX9_at yX9_at, .initialized RX9, .code yX9_at cX9_at 2 (some .int), .fieldLink RX9 19 "FormatDump$Row" "size" "I", .fieldLink RX9 9 "FormatDump$Row" "cells" "[I", .methodLink RX3 32 yX3_meaningOf, .static yX3_meaningOf, .initialized RX3, .code yX3_meaningOf cX3_meaningOf 1 (some .int)] ++ wsX30 ++ wsX90)
def wsX3_readOctal : List Cond := .code yX3_readOctal cX3_readOctal 4 none :: ([.fieldLink RX3 9 "FormatDump$Escape" "value" "I", .fieldLink RX3 15 "FormatDump$Escape" "end" "I", .methodLink RX3 26 yX9_at, .instanceMethod yX9_at, .selects RX9 yX9_at yX9_at, .initialized RX9, .code yX9_at cX9_at 2 (some .int), .fieldLink RX9 19 "FormatDump$Row" "size" "I", .fieldLink RX9 9 "FormatDump$Row" "cells" "[I", .static yX11_digitOf, .initialized RX11, .code yX11_digitOf cX11_digitOf 3 (some .int)] ++ wsX30 ++ wsX90)
def wsX3_readInFormat : List Cond := .code yX3_readInFormat cX3_readInFormat 3 (some .boolean) :: ([.fieldLink RX3 15 "FormatDump$Escape" "end" "I", .methodLink RX3 18 yX3_readLetter, .instanceMethod yX3_readLetter, .selects RX3 yX3_readLetter yX3_readLetter, .initialized RX3, .code yX3_readLetter cX3_readLetter 3 (some .boolean), .fieldLink RX3 9 "FormatDump$Escape" "value" "I", .methodLink RX3 26 yX9_at, .instanceMethod yX9_at, .selects RX9 yX9_at yX9_at, .initialized RX9, .code yX9_at cX9_at 2 (some .int), .fieldLink RX9 19 "FormatDump$Row" "size" "I", .fieldLink RX9 9 "FormatDump$Row" "cells" "[I", .methodLink RX3 32 yX3_meaningOf, .static yX3_meaningOf, .code yX3_meaningOf cX3_meaningOf 1 (some .int), .methodLink RX3 22 yX3_readOctal, .instanceMethod yX3_readOctal, .selects RX3 yX3_readOctal yX3_readOctal, .code yX3_readOctal cX3_readOctal 4 none, .static yX11_digitOf, .initialized RX11, .code yX11_digitOf cX11_digitOf 3 (some .int)] ++ wsX30 ++ wsX90)
def wsX3_readInText : List Cond := .code yX3_readInText cX3_readInText 3 (some .boolean) :: ([.methodLink RX3 18 yX3_readLetter, .instanceMethod yX3_readLetter, .selects RX3 yX3_readLetter yX3_readLetter, .initialized RX3, .code yX3_readLetter cX3_readLetter 3 (some .boolean), .fieldLink RX3 9 "FormatDump$Escape" "value" "I", .fieldLink RX3 15 "FormatDump$Escape" "end" "I", .methodLink RX3 26 yX9_at, .instanceMethod yX9_at, .selects RX9 yX9_at yX9_at, .initialized RX9, .code yX9_at cX9_at 2 (some .int), .fieldLink RX9 19 "FormatDump$Row" "size" "I", .fieldLink RX9 9 "FormatDump$Row" "cells" "[I", .methodLink RX3 32 yX3_meaningOf, .static yX3_meaningOf, .code yX3_meaningOf cX3_meaningOf 1 (some .int), .methodLink RX3 22 yX3_readOctal, .instanceMethod yX3_readOctal, .selects RX3 yX3_readOctal yX3_readOctal, .code yX3_readOctal cX3_readOctal 4 none, .static yX11_digitOf, .initialized RX11, .code yX11_digitOf cX11_digitOf 3 (some .int)] ++ wsX30 ++ wsX90)
def wsX4_init : List Cond := .code yX4_init cX4_init 1 none :: ([.methodLink RX4 3 objectInit, .instanceMethod objectInit, .code objectInit ⟨#[0xb1]⟩ 1 none, .arrayClass .int, .fieldLink RX4 9 "FormatDump$Figures" "lowestFirst" "[I", .fieldLink RX4 15 "FormatDump$Figures" "size" "I", .fieldLink RX4 19 "FormatDump$Figures" "large" "Z"] ++ wsX40)
def wsX4_take : List Cond := .code yX4_take cX4_take 11 none :: ([.methodLink RX4 23 Lib.Math.max.name, .static Lib.Math.max.name, .initialized "java/lang/Math", .code Lib.Math.max.name Lib.Math.max.code 2 (some .int), .fieldLink RX4 15 "FormatDump$Figures" "size" "I", .fieldLink RX4 19 "FormatDump$Figures" "large" "Z", .fieldLink RX4 9 "FormatDump$Figures" "lowestFirst" "[I"] ++ wsX40)
def wsX4_size : List Cond := .code yX4_size cX4_size 1 (some .int) :: ([.fieldLink RX4 15 "FormatDump$Figures" "size" "I"] ++ wsX40)
def wsX4_characterOf : List Cond := .code yX4_characterOf cX4_characterOf 2 (some .int) :: ([.fieldLink RX4 19 "FormatDump$Figures" "large" "Z"] ++ wsX40)
def wsX4_writeTo : List Cond := .code yX4_writeTo cX4_writeTo 4 none :: ([.fieldLink RX4 15 "FormatDump$Figures" "size" "I", .methodLink RX4 23 Lib.Math.max.name, .static Lib.Math.max.name, .initialized "java/lang/Math", .code Lib.Math.max.name Lib.Math.max.code 2 (some .int), .fieldLink RX4 9 "FormatDump$Figures" "lowestFirst" "[I", .methodLink RX4 29 yX4_characterOf, .instanceMethod yX4_characterOf, .selects RX4 yX4_characterOf yX4_characterOf, .initialized RX4, .code yX4_characterOf cX4_characterOf 2 (some .int), .fieldLink RX4 19 "FormatDump$Figures" "large" "Z", .methodLink RX4 33 yX9_add, .instanceMethod yX9_add, .selects RX9 yX9_add yX9_add, .initialized RX9, .code yX9_add cX9_add 2 none, .fieldLink RX9 19 "FormatDump$Row" "size" "I", .fieldLink RX9 15 "FormatDump$Row" "limit" "I", .fieldLink RX9 9 "FormatDump$Row" "cells" "[I", .fieldLink RX9 22 "FormatDump$Row" "over" "Z"] ++ wsX40 ++ wsX90)
def wsX6_init : List Cond := .code yX6_init cX6_init 4 none :: ([.methodLink RX6 3 objectInit, .instanceMethod objectInit, .code objectInit ⟨#[0xb1]⟩ 1 none, .fieldLink RX6 9 "FormatDump$PairDump" "page" "LFormatDump$Row;", .fieldLink RX6 15 "FormatDump$PairDump" "bytes" "LFormatDump$Row;", .fieldLink RX6 18 "FormatDump$PairDump" "figures" "LFormatDump$Figures;"] ++ wsX60)
def wsX11_endsGroup : List Cond := .code yX11_endsGroup cX11_endsGroup 3 (some .boolean) :: ([])
def wsX11_pairsWidth : List Cond := .code yX11_pairsWidth cX11_pairsWidth 4 (some .int) :: ([.methodLink RX11 195 yX11_endsGroup, .static yX11_endsGroup, .initialized RX11, .code yX11_endsGroup cX11_endsGroup 3 (some .boolean)])
def wsX6_writeDigits_r1 : List Cond := [Cond.fieldLink RX6 18 "FormatDump$PairDump" "figures" "LFormatDump$Figures;", Cond.fieldLink RX6 9 "FormatDump$PairDump" "page" "LFormatDump$Row;", Cond.methodLink RX6 63 yX4_take, Cond.instanceMethod yX4_take, Cond.selects RX4 yX4_take yX4_take, Cond.initialized RX4, Cond.code yX4_take cX4_take 11 none, Cond.methodLink RX4 23 Lib.Math.max.name, Cond.static Lib.Math.max.name, Cond.initialized "java/lang/Math", Cond.code Lib.Math.max.name Lib.Math.max.code 2 (some .int), Cond.fieldLink RX4 15 "FormatDump$Figures" "size" "I", Cond.fieldLink RX4 19 "FormatDump$Figures" "large" "Z", Cond.fieldLink RX4 9 "FormatDump$Figures" "lowestFirst" "[I", Cond.methodLink RX6 69 yX4_writeTo, Cond.instanceMethod yX4_writeTo, Cond.selects RX4 yX4_writeTo yX4_writeTo, Cond.code yX4_writeTo cX4_writeTo 4 none, Cond.methodLink RX4 29 yX4_characterOf, Cond.instanceMethod yX4_characterOf, Cond.selects RX4 yX4_characterOf yX4_characterOf, Cond.code yX4_characterOf cX4_characterOf 2 (some .int), Cond.methodLink RX4 33 yX9_add, Cond.instanceMethod yX9_add]
def wsX6_writeDigits_r2 : List Cond := [Cond.selects RX9 yX9_add yX9_add, Cond.initialized RX9, Cond.code yX9_add cX9_add 2 none, Cond.fieldLink RX9 19 "FormatDump$Row" "size" "I", Cond.fieldLink RX9 15 "FormatDump$Row" "limit" "I", Cond.fieldLink RX9 9 "FormatDump$Row" "cells" "[I", Cond.fieldLink RX9 22 "FormatDump$Row" "over" "Z"]
def wsX6_writeDigits : List Cond := .code yX6_writeDigits cX6_writeDigits 4 none :: ((wsX6_writeDigits_r1 ++ wsX6_writeDigits_r2) ++ wsX60 ++ wsX40 ++ wsX90)
def wsX9_addMany : List Cond := .code yX9_addMany cX9_addMany 4 none :: ([.methodLink RX9 35 yX9_add, .instanceMethod yX9_add, .selects RX9 yX9_add yX9_add, .initialized RX9, .code yX9_add cX9_add 2 none, .fieldLink RX9 19 "FormatDump$Row" "size" "I", .fieldLink RX9 15 "FormatDump$Row" "limit" "I", .fieldLink RX9 9 "FormatDump$Row" "cells" "[I", .fieldLink RX9 22 "FormatDump$Row" "over" "Z"] ++ wsX90)
def wsX11_canBeSeen : List Cond := .code yX11_canBeSeen cX11_canBeSeen 1 (some .boolean) :: ([])
def wsX11_seenAs : List Cond := .code yX11_seenAs cX11_seenAs 1 (some .int) :: ([.methodLink RX11 192 yX11_canBeSeen, .static yX11_canBeSeen, .initialized RX11, .code yX11_canBeSeen cX11_canBeSeen 1 (some .boolean)])
def wsX6_dump_r1 : List Cond := [Cond.methodLink RX6 26 Lib.Math.max.name, Cond.static Lib.Math.max.name, Cond.initialized "java/lang/Math", Cond.code Lib.Math.max.name Lib.Math.max.code 2 (some .int), Cond.fieldLink RX6 15 "FormatDump$PairDump" "bytes" "LFormatDump$Row;", Cond.methodLink RX6 37 Lib.Math.min.name, Cond.static Lib.Math.min.name, Cond.code Lib.Math.min.name Lib.Math.min.code 2 (some .int), Cond.fieldLink RX6 9 "FormatDump$PairDump" "page" "LFormatDump$Row;", Cond.static yX11_pairsWidth, Cond.initialized RX11, Cond.code yX11_pairsWidth cX11_pairsWidth 4 (some .int), Cond.methodLink RX11 195 yX11_endsGroup, Cond.static yX11_endsGroup, Cond.code yX11_endsGroup cX11_endsGroup 3 (some .boolean), Cond.methodLink RX6 31 yX9_size, Cond.instanceMethod yX9_size, Cond.selects RX9 yX9_size yX9_size, Cond.initialized RX9, Cond.code yX9_size cX9_size 1 (some .int), Cond.fieldLink RX9 19 "FormatDump$Row" "size" "I", Cond.methodLink RX6 40 yX6_writeDigits, Cond.instanceMethod yX6_writeDigits, Cond.selects RX6 yX6_writeDigits yX6_writeDigits]
def wsX6_dump_r2 : List Cond := [Cond.initialized RX6, Cond.code yX6_writeDigits cX6_writeDigits 4 none, Cond.fieldLink RX6 18 "FormatDump$PairDump" "figures" "LFormatDump$Figures;", Cond.methodLink RX6 63 yX4_take, Cond.instanceMethod yX4_take, Cond.selects RX4 yX4_take yX4_take, Cond.initialized RX4, Cond.code yX4_take cX4_take 11 none, Cond.methodLink RX4 23 Lib.Math.max.name, Cond.fieldLink RX4 15 "FormatDump$Figures" "size" "I", Cond.fieldLink RX4 19 "FormatDump$Figures" "large" "Z", Cond.fieldLink RX4 9 "FormatDump$Figures" "lowestFirst" "[I", Cond.methodLink RX6 69 yX4_writeTo, Cond.instanceMethod yX4_writeTo, Cond.selects RX4 yX4_writeTo yX4_writeTo, Cond.code yX4_writeTo cX4_writeTo 4 none, Cond.methodLink RX4 29 yX4_characterOf, Cond.instanceMethod yX4_characterOf, Cond.selects RX4 yX4_characterOf yX4_characterOf, Cond.code yX4_characterOf cX4_characterOf 2 (some .int), Cond.methodLink RX4 33 yX9_add, Cond.instanceMethod yX9_add, Cond.selects RX9 yX9_add yX9_add, Cond.code yX9_add cX9_add 2 none]
def wsX6_dump_r3 : List Cond := [Cond.fieldLink RX9 15 "FormatDump$Row" "limit" "I", Cond.fieldLink RX9 9 "FormatDump$Row" "cells" "[I", Cond.fieldLink RX9 22 "FormatDump$Row" "over" "Z", Cond.methodLink RX6 44 yX9_add, Cond.methodLink RX6 48 yX9_at, Cond.instanceMethod yX9_at, Cond.selects RX9 yX9_at yX9_at, Cond.code yX9_at cX9_at 2 (some .int), Cond.methodLink RX6 56 yX9_addMany, Cond.instanceMethod yX9_addMany, Cond.selects RX9 yX9_addMany yX9_addMany, Cond.code yX9_addMany cX9_addMany 4 none, Cond.methodLink RX9 35 yX9_add, Cond.static yX11_seenAs, Cond.code yX11_seenAs cX11_seenAs 1 (some .int), Cond.methodLink RX11 192 yX11_canBeSeen, Cond.static yX11_canBeSeen, Cond.code yX11_canBeSeen cX11_canBeSeen 1 (some .boolean)]
def wsX6_dump : List Cond := .code yX6_dump cX6_dump 9 none :: ((wsX6_dump_r1 ++ (wsX6_dump_r2 ++ wsX6_dump_r3)) ++ wsX60 ++ wsX90 ++ wsX40)
def wsX7_init : List Cond := .code yX7_init cX7_init 2 none :: ([.methodLink RX7 3 objectInit, .instanceMethod objectInit, .code objectInit ⟨#[0xb1]⟩ 1 none, .fieldLink RX7 9 "FormatDump$PairReader" "page" "LFormatDump$Row;", .classLink RX7 15 RX9, .instantiable RX9 4, .initialized RX9, .fieldLink RX7 20 "FormatDump$PairReader" "found" "LFormatDump$Row;", .fieldLink RX7 23 "FormatDump$PairReader" "lineBytes" "LFormatDump$Row;", .fieldLink RX7 26 "FormatDump$PairReader" "total" "I", .fieldLink RX7 30 "FormatDump$PairReader" "at" "I", .methodLink RX7 17 yX9_init, .instanceMethod yX9_init, .code yX9_init cX9_init 2 none, .methodLink RX9 3 objectInit, .arrayClass .int, .fieldLink RX9 9 "FormatDump$Row" "cells" "[I", .fieldLink RX9 15 "FormatDump$Row" "limit" "I", .fieldLink RX9 19 "FormatDump$Row" "size" "I", .fieldLink RX9 22 "FormatDump$Row" "over" "Z"] ++ wsX70 ++ wsX90)
def wsX7_found : List Cond := .code yX7_found cX7_found 1 (some (.object "FormatDump$Row")) :: ([.fieldLink RX7 20 "FormatDump$PairReader" "found" "LFormatDump$Row;"] ++ wsX70)
def wsX7_stop : List Cond := .code yX7_stop cX7_stop 1 (some .int) :: ([.fieldLink RX7 30 "FormatDump$PairReader" "at" "I"] ++ wsX70)
def wsX7_readAddress : List Cond := .code yX7_readAddress cX7_readAddress 2 (some .boolean) :: ([.fieldLink RX7 9 "FormatDump$PairReader" "page" "LFormatDump$Row;", .fieldLink RX7 30 "FormatDump$PairReader" "at" "I", .fieldLink RX7 26 "FormatDump$PairReader" "total" "I", .methodLink RX7 66 yX9_at, .instanceMethod yX9_at, .selects RX9 yX9_at yX9_at, .initialized RX9, .code yX9_at cX9_at 2 (some .int), .fieldLink RX9 19 "FormatDump$Row" "size" "I", .fieldLink RX9 9 "FormatDump$Row" "cells" "[I", .static yX11_digitOf, .initialized RX11, .code yX11_digitOf cX11_digitOf 3 (some .int)] ++ wsX70 ++ wsX90)
def wsX7_readOne : List Cond := .code yX7_readOne cX7_readOne 2 (some .boolean) :: ([.fieldLink RX7 9 "FormatDump$PairReader" "page" "LFormatDump$Row;", .fieldLink RX7 30 "FormatDump$PairReader" "at" "I", .methodLink RX7 66 yX9_at, .instanceMethod yX9_at, .selects RX9 yX9_at yX9_at, .initialized RX9, .code yX9_at cX9_at 2 (some .int), .fieldLink RX9 19 "FormatDump$Row" "size" "I", .fieldLink RX9 9 "FormatDump$Row" "cells" "[I"] ++ wsX70 ++ wsX90)
def wsX7_readPair : List Cond := .code yX7_readPair cX7_readPair 3 (some .boolean) :: ([.fieldLink RX7 9 "FormatDump$PairReader" "page" "LFormatDump$Row;", .fieldLink RX7 30 "FormatDump$PairReader" "at" "I", .fieldLink RX7 26 "FormatDump$PairReader" "total" "I", .fieldLink RX7 23 "FormatDump$PairReader" "lineBytes" "LFormatDump$Row;", .fieldLink RX7 20 "FormatDump$PairReader" "found" "LFormatDump$Row;", .methodLink RX7 66 yX9_at, .instanceMethod yX9_at, .selects RX9 yX9_at yX9_at, .initialized RX9, .code yX9_at cX9_at 2 (some .int), .fieldLink RX9 19 "FormatDump$Row" "size" "I", .fieldLink RX9 9 "FormatDump$Row" "cells" "[I", .static yX11_digitOf, .initialized RX11, .code yX11_digitOf cX11_digitOf 3 (some .int), .methodLink RX7 78 yX9_add, .instanceMethod yX9_add, .selects RX9 yX9_add yX9_add, .code yX9_add cX9_add 2 none, .fieldLink RX9 15 "FormatDump$Row" "limit" "I", .fieldLink RX9 22 "FormatDump$Row" "over" "Z"] ++ wsX70 ++ wsX90)
def wsX7_readPairs_r1 : List Cond := [Cond.fieldLink RX7 23 "FormatDump$PairReader" "lineBytes" "LFormatDump$Row;", Cond.fieldLink RX7 9 "FormatDump$PairReader" "page" "LFormatDump$Row;", Cond.fieldLink RX7 30 "FormatDump$PairReader" "at" "I", Cond.methodLink RX7 37 yX9_clear, Cond.instanceMethod yX9_clear, Cond.selects RX9 yX9_clear yX9_clear, Cond.initialized RX9, Cond.code yX9_clear cX9_clear 1 none, Cond.fieldLink RX9 19 "FormatDump$Row" "size" "I", Cond.fieldLink RX9 22 "FormatDump$Row" "over" "Z", Cond.methodLink RX7 66 yX9_at, Cond.instanceMethod yX9_at, Cond.selects RX9 yX9_at yX9_at, Cond.code yX9_at cX9_at 2 (some .int), Cond.fieldLink RX9 9 "FormatDump$Row" "cells" "[I", Cond.methodLink RX7 72 yX7_readPair, Cond.instanceMethod yX7_readPair, Cond.selects RX7 yX7_readPair yX7_readPair, Cond.initialized RX7, Cond.code yX7_readPair cX7_readPair 3 (some .boolean), Cond.fieldLink RX7 26 "FormatDump$PairReader" "total" "I", Cond.fieldLink RX7 20 "FormatDump$PairReader" "found" "LFormatDump$Row;", Cond.static yX11_digitOf, Cond.initialized RX11]
def wsX7_readPairs_r2 : List Cond := [Cond.code yX11_digitOf cX11_digitOf 3 (some .int), Cond.methodLink RX7 78 yX9_add, Cond.instanceMethod yX9_add, Cond.selects RX9 yX9_add yX9_add, Cond.code yX9_add cX9_add 2 none, Cond.fieldLink RX9 15 "FormatDump$Row" "limit" "I", Cond.static yX11_endsGroup, Cond.code yX11_endsGroup cX11_endsGroup 3 (some .boolean), Cond.methodLink RX7 52 yX7_readOne, Cond.instanceMethod yX7_readOne, Cond.selects RX7 yX7_readOne yX7_readOne, Cond.code yX7_readOne cX7_readOne 2 (some .boolean)]
def wsX7_readPairs : List Cond := .code yX7_readPairs cX7_readPairs 4 (some .boolean) :: ((wsX7_readPairs_r1 ++ wsX7_readPairs_r2) ++ wsX70 ++ wsX90)
def wsX7_readBlanks : List Cond := .code yX7_readBlanks cX7_readBlanks 2 (some .boolean) :: ([.fieldLink RX7 30 "FormatDump$PairReader" "at" "I", .fieldLink RX7 9 "FormatDump$PairReader" "page" "LFormatDump$Row;", .methodLink RX7 66 yX9_at, .instanceMethod yX9_at, .selects RX9 yX9_at yX9_at, .initialized RX9, .code yX9_at cX9_at 2 (some .int), .fieldLink RX9 19 "FormatDump$Row" "size" "I", .fieldLink RX9 9 "FormatDump$Row" "cells" "[I"] ++ wsX70 ++ wsX90)
def wsX7_readSeen_r1 : List Cond := [Cond.fieldLink RX7 23 "FormatDump$PairReader" "lineBytes" "LFormatDump$Row;", Cond.methodLink RX7 40 yX9_size, Cond.instanceMethod yX9_size, Cond.selects RX9 yX9_size yX9_size, Cond.initialized RX9, Cond.code yX9_size cX9_size 1 (some .int), Cond.fieldLink RX9 19 "FormatDump$Row" "size" "I", Cond.methodLink RX7 66 yX9_at, Cond.instanceMethod yX9_at, Cond.selects RX9 yX9_at yX9_at, Cond.code yX9_at cX9_at 2 (some .int), Cond.fieldLink RX9 9 "FormatDump$Row" "cells" "[I", Cond.static yX11_seenAs, Cond.initialized RX11, Cond.code yX11_seenAs cX11_seenAs 1 (some .int), Cond.methodLink RX11 192 yX11_canBeSeen, Cond.static yX11_canBeSeen, Cond.code yX11_canBeSeen cX11_canBeSeen 1 (some .boolean), Cond.methodLink RX7 52 yX7_readOne, Cond.instanceMethod yX7_readOne, Cond.selects RX7 yX7_readOne yX7_readOne, Cond.initialized RX7, Cond.code yX7_readOne cX7_readOne 2 (some .boolean), Cond.fieldLink RX7 9 "FormatDump$PairReader" "page" "LFormatDump$Row;"]
def wsX7_readSeen_r2 : List Cond := [Cond.fieldLink RX7 30 "FormatDump$PairReader" "at" "I"]
def wsX7_readSeen : List Cond := .code yX7_readSeen cX7_readSeen 2 (some .boolean) :: ((wsX7_readSeen_r1 ++ wsX7_readSeen_r2) ++ wsX70 ++ wsX90)
def wsX7_readLine_r1 : List Cond := [Cond.fieldLink RX7 30 "FormatDump$PairReader" "at" "I", Cond.methodLink RX7 48 yX7_readAddress, Cond.instanceMethod yX7_readAddress, Cond.selects RX7 yX7_readAddress yX7_readAddress, Cond.initialized RX7, Cond.code yX7_readAddress cX7_readAddress 2 (some .boolean), Cond.fieldLink RX7 9 "FormatDump$PairReader" "page" "LFormatDump$Row;", Cond.fieldLink RX7 26 "FormatDump$PairReader" "total" "I", Cond.methodLink RX7 66 yX9_at, Cond.instanceMethod yX9_at, Cond.selects RX9 yX9_at yX9_at, Cond.initialized RX9, Cond.code yX9_at cX9_at 2 (some .int), Cond.fieldLink RX9 19 "FormatDump$Row" "size" "I", Cond.fieldLink RX9 9 "FormatDump$Row" "cells" "[I", Cond.static yX11_digitOf, Cond.initialized RX11, Cond.code yX11_digitOf cX11_digitOf 3 (some .int), Cond.methodLink RX7 52 yX7_readOne, Cond.instanceMethod yX7_readOne, Cond.selects RX7 yX7_readOne yX7_readOne, Cond.code yX7_readOne cX7_readOne 2 (some .boolean), Cond.methodLink RX7 56 yX7_readPairs, Cond.instanceMethod yX7_readPairs]
def wsX7_readLine_r2 : List Cond := [Cond.selects RX7 yX7_readPairs yX7_readPairs, Cond.code yX7_readPairs cX7_readPairs 4 (some .boolean), Cond.fieldLink RX7 23 "FormatDump$PairReader" "lineBytes" "LFormatDump$Row;", Cond.methodLink RX7 37 yX9_clear, Cond.instanceMethod yX9_clear, Cond.selects RX9 yX9_clear yX9_clear, Cond.code yX9_clear cX9_clear 1 none, Cond.fieldLink RX9 22 "FormatDump$Row" "over" "Z", Cond.methodLink RX7 72 yX7_readPair, Cond.instanceMethod yX7_readPair, Cond.selects RX7 yX7_readPair yX7_readPair, Cond.code yX7_readPair cX7_readPair 3 (some .boolean), Cond.fieldLink RX7 20 "FormatDump$PairReader" "found" "LFormatDump$Row;", Cond.methodLink RX7 78 yX9_add, Cond.instanceMethod yX9_add, Cond.selects RX9 yX9_add yX9_add, Cond.code yX9_add cX9_add 2 none, Cond.fieldLink RX9 15 "FormatDump$Row" "limit" "I", Cond.static yX11_endsGroup, Cond.code yX11_endsGroup cX11_endsGroup 3 (some .boolean), Cond.methodLink RX7 60 yX7_readBlanks, Cond.instanceMethod yX7_readBlanks, Cond.selects RX7 yX7_readBlanks yX7_readBlanks, Cond.code yX7_readBlanks cX7_readBlanks 2 (some .boolean)]
def wsX7_readLine_r3 : List Cond := [Cond.methodLink RX7 63 yX7_readSeen, Cond.instanceMethod yX7_readSeen, Cond.selects RX7 yX7_readSeen yX7_readSeen, Cond.code yX7_readSeen cX7_readSeen 2 (some .boolean), Cond.methodLink RX7 40 yX9_size, Cond.instanceMethod yX9_size, Cond.selects RX9 yX9_size yX9_size, Cond.code yX9_size cX9_size 1 (some .int), Cond.static yX11_seenAs, Cond.code yX11_seenAs cX11_seenAs 1 (some .int), Cond.methodLink RX11 192 yX11_canBeSeen, Cond.static yX11_canBeSeen, Cond.code yX11_canBeSeen cX11_canBeSeen 1 (some .boolean)]
def wsX7_readLine : List Cond := .code yX7_readLine cX7_readLine 5 (some .boolean) :: ((wsX7_readLine_r1 ++ (wsX7_readLine_r2 ++ wsX7_readLine_r3)) ++ wsX70 ++ wsX90)
def wsX7_readPage_r1 : List Cond := [Cond.fieldLink RX7 20 "FormatDump$PairReader" "found" "LFormatDump$Row;", Cond.fieldLink RX7 26 "FormatDump$PairReader" "total" "I", Cond.fieldLink RX7 30 "FormatDump$PairReader" "at" "I", Cond.fieldLink RX7 9 "FormatDump$PairReader" "page" "LFormatDump$Row;", Cond.fieldLink RX7 23 "FormatDump$PairReader" "lineBytes" "LFormatDump$Row;", Cond.static yX11_pairsWidth, Cond.initialized RX11, Cond.code yX11_pairsWidth cX11_pairsWidth 4 (some .int), Cond.methodLink RX11 195 yX11_endsGroup, Cond.static yX11_endsGroup, Cond.code yX11_endsGroup cX11_endsGroup 3 (some .boolean), Cond.methodLink RX7 37 yX9_clear, Cond.instanceMethod yX9_clear, Cond.selects RX9 yX9_clear yX9_clear, Cond.initialized RX9, Cond.code yX9_clear cX9_clear 1 none, Cond.fieldLink RX9 19 "FormatDump$Row" "size" "I", Cond.fieldLink RX9 22 "FormatDump$Row" "over" "Z", Cond.methodLink RX7 40 yX9_size, Cond.instanceMethod yX9_size, Cond.selects RX9 yX9_size yX9_size, Cond.code yX9_size cX9_size 1 (some .int), Cond.methodLink RX7 44 yX7_readLine, Cond.instanceMethod yX7_readLine]
def wsX7_readPage_r2 : List Cond := [Cond.selects RX7 yX7_readLine yX7_readLine, Cond.initialized RX7, Cond.code yX7_readLine cX7_readLine 5 (some .boolean), Cond.methodLink RX7 48 yX7_readAddress, Cond.instanceMethod yX7_readAddress, Cond.selects RX7 yX7_readAddress yX7_readAddress, Cond.code yX7_readAddress cX7_readAddress 2 (some .boolean), Cond.methodLink RX7 66 yX9_at, Cond.instanceMethod yX9_at, Cond.selects RX9 yX9_at yX9_at, Cond.code yX9_at cX9_at 2 (some .int), Cond.fieldLink RX9 9 "FormatDump$Row" "cells" "[I", Cond.static yX11_digitOf, Cond.code yX11_digitOf cX11_digitOf 3 (some .int), Cond.methodLink RX7 52 yX7_readOne, Cond.instanceMethod yX7_readOne, Cond.selects RX7 yX7_readOne yX7_readOne, Cond.code yX7_readOne cX7_readOne 2 (some .boolean), Cond.methodLink RX7 56 yX7_readPairs, Cond.instanceMethod yX7_readPairs, Cond.selects RX7 yX7_readPairs yX7_readPairs, Cond.code yX7_readPairs cX7_readPairs 4 (some .boolean), Cond.methodLink RX7 72 yX7_readPair, Cond.instanceMethod yX7_readPair]
def wsX7_readPage_r3 : List Cond := [Cond.selects RX7 yX7_readPair yX7_readPair, Cond.code yX7_readPair cX7_readPair 3 (some .boolean), Cond.methodLink RX7 78 yX9_add, Cond.instanceMethod yX9_add, Cond.selects RX9 yX9_add yX9_add, Cond.code yX9_add cX9_add 2 none, Cond.fieldLink RX9 15 "FormatDump$Row" "limit" "I", Cond.methodLink RX7 60 yX7_readBlanks, Cond.instanceMethod yX7_readBlanks, Cond.selects RX7 yX7_readBlanks yX7_readBlanks, Cond.code yX7_readBlanks cX7_readBlanks 2 (some .boolean), Cond.methodLink RX7 63 yX7_readSeen, Cond.instanceMethod yX7_readSeen, Cond.selects RX7 yX7_readSeen yX7_readSeen, Cond.code yX7_readSeen cX7_readSeen 2 (some .boolean), Cond.static yX11_seenAs, Cond.code yX11_seenAs cX11_seenAs 1 (some .int), Cond.methodLink RX11 192 yX11_canBeSeen, Cond.static yX11_canBeSeen, Cond.code yX11_canBeSeen cX11_canBeSeen 1 (some .boolean)]
def wsX7_readPage : List Cond := .code yX7_readPage cX7_readPage 6 (some .boolean) :: ((wsX7_readPage_r1 ++ (wsX7_readPage_r2 ++ wsX7_readPage_r3)) ++ wsX70 ++ wsX90)
def wsX8_init_r1 : List Cond := [Cond.methodLink RX8 3 objectInit, Cond.instanceMethod objectInit, Cond.code objectInit ⟨#[0xb1]⟩ 1 none, Cond.fieldLink RX8 9 "FormatDump$Printer" "page" "LFormatDump$Row;", Cond.fieldLink RX8 15 "FormatDump$Printer" "arguments" "LFormatDump$Arguments;", Cond.fieldLink RX8 19 "FormatDump$Printer" "figures" "LFormatDump$Figures;", Cond.classLink RX8 23 RX3, Cond.instantiable RX3 2, Cond.initialized RX3, Cond.fieldLink RX8 26 "FormatDump$Printer" "escape" "LFormatDump$Escape;", Cond.classLink RX8 30 RX2, Cond.instantiable RX2 12, Cond.initialized RX2, Cond.fieldLink RX8 33 "FormatDump$Printer" "directive" "LFormatDump$Directive;", Cond.classLink RX8 37 RX9, Cond.instantiable RX9 4, Cond.initialized RX9, Cond.fieldLink RX8 42 "FormatDump$Printer" "piece" "LFormatDump$Row;", Cond.fieldLink RX8 45 "FormatDump$Printer" "raw" "LFormatDump$Row;", Cond.fieldLink RX8 48 "FormatDump$Printer" "ended" "Z", Cond.methodLink RX8 25 yX3_init, Cond.instanceMethod yX3_init, Cond.code yX3_init cX3_init 1 none, Cond.methodLink RX3 3 objectInit]
def wsX8_init_r2 : List Cond := [Cond.fieldLink RX3 9 "FormatDump$Escape" "value" "I", Cond.fieldLink RX3 15 "FormatDump$Escape" "end" "I", Cond.methodLink RX8 32 yX2_init, Cond.instanceMethod yX2_init, Cond.code yX2_init cX2_init 1 none, Cond.methodLink RX2 3 objectInit, Cond.methodLink RX2 9 yX2_forget, Cond.instanceMethod yX2_forget, Cond.selects RX2 yX2_forget yX2_forget, Cond.code yX2_forget cX2_forget 1 none, Cond.fieldLink RX2 51 "FormatDump$Directive" "flagLeft" "Z", Cond.fieldLink RX2 77 "FormatDump$Directive" "flagPlus" "Z", Cond.fieldLink RX2 80 "FormatDump$Directive" "flagBlank" "Z", Cond.fieldLink RX2 83 "FormatDump$Directive" "flagMark" "Z", Cond.fieldLink RX2 47 "FormatDump$Directive" "flagZero" "Z", Cond.fieldLink RX2 86 "FormatDump$Directive" "starWidth" "Z", Cond.fieldLink RX2 89 "FormatDump$Directive" "starPrecision" "Z", Cond.fieldLink RX2 61 "FormatDump$Directive" "width" "I", Cond.fieldLink RX2 54 "FormatDump$Directive" "precision" "I", Cond.fieldLink RX2 92 "FormatDump$Directive" "bits" "I", Cond.fieldLink RX2 37 "FormatDump$Directive" "letter" "I", Cond.fieldLink RX2 14 "FormatDump$Directive" "end" "I", Cond.methodLink RX8 39 yX9_init, Cond.instanceMethod yX9_init]
def wsX8_init_r3 : List Cond := [Cond.code yX9_init cX9_init 2 none, Cond.methodLink RX9 3 objectInit, Cond.arrayClass .int, Cond.fieldLink RX9 9 "FormatDump$Row" "cells" "[I", Cond.fieldLink RX9 15 "FormatDump$Row" "limit" "I", Cond.fieldLink RX9 19 "FormatDump$Row" "size" "I", Cond.fieldLink RX9 22 "FormatDump$Row" "over" "Z"]
def wsX8_init : List Cond := .code yX8_init cX8_init 4 none :: ((wsX8_init_r1 ++ (wsX8_init_r2 ++ wsX8_init_r3)) ++ wsX80 ++ wsX30 ++ wsX20 ++ wsX90)
def wsX8_readPiece_r1 : List Cond := [Cond.fieldLink RX8 26 "FormatDump$Printer" "escape" "LFormatDump$Escape;", Cond.fieldLink RX8 33 "FormatDump$Printer" "directive" "LFormatDump$Directive;", Cond.fieldLink RX8 91 "FormatDump$Directive" "end" "I", Cond.methodLink RX8 68 yX9_at, Cond.instanceMethod yX9_at, Cond.selects RX9 yX9_at yX9_at, Cond.initialized RX9, Cond.code yX9_at cX9_at 2 (some .int), Cond.fieldLink RX9 19 "FormatDump$Row" "size" "I", Cond.fieldLink RX9 9 "FormatDump$Row" "cells" "[I", Cond.methodLink RX8 81 yX3_readInFormat, Cond.instanceMethod yX3_readInFormat, Cond.selects RX3 yX3_readInFormat yX3_readInFormat, Cond.initialized RX3, Cond.code yX3_readInFormat cX3_readInFormat 3 (some .boolean), Cond.fieldLink RX3 15 "FormatDump$Escape" "end" "I", Cond.methodLink RX3 18 yX3_readLetter, Cond.instanceMethod yX3_readLetter, Cond.selects RX3 yX3_readLetter yX3_readLetter, Cond.code yX3_readLetter cX3_readLetter 3 (some .boolean), Cond.fieldLink RX3 9 "FormatDump$Escape" "value" "I", Cond.methodLink RX3 26 yX9_at, Cond.methodLink RX3 32 yX3_meaningOf, Cond.static yX3_meaningOf]
def wsX8_readPiece_r2 : List Cond := [Cond.code yX3_meaningOf cX3_meaningOf 1 (some .int), Cond.methodLink RX3 22 yX3_readOctal, Cond.instanceMethod yX3_readOctal, Cond.selects RX3 yX3_readOctal yX3_readOctal, Cond.code yX3_readOctal cX3_readOctal 4 none, Cond.static yX11_digitOf, Cond.initialized RX11, Cond.code yX11_digitOf cX11_digitOf 3 (some .int), Cond.methodLink RX8 85 yX3_end, Cond.instanceMethod yX3_end, Cond.selects RX3 yX3_end yX3_end, Cond.code yX3_end cX3_end 1 (some .int), Cond.methodLink RX8 88 yX2_read, Cond.instanceMethod yX2_read, Cond.selects RX2 yX2_read yX2_read, Cond.initialized RX2, Cond.code yX2_read cX2_read 3 (some .boolean), Cond.fieldLink RX2 14 "FormatDump$Directive" "end" "I", Cond.fieldLink RX2 37 "FormatDump$Directive" "letter" "I", Cond.methodLink RX2 9 yX2_forget, Cond.instanceMethod yX2_forget, Cond.selects RX2 yX2_forget yX2_forget, Cond.code yX2_forget cX2_forget 1 none, Cond.fieldLink RX2 51 "FormatDump$Directive" "flagLeft" "Z"]
def wsX8_readPiece_r3 : List Cond := [Cond.fieldLink RX2 77 "FormatDump$Directive" "flagPlus" "Z", Cond.fieldLink RX2 80 "FormatDump$Directive" "flagBlank" "Z", Cond.fieldLink RX2 83 "FormatDump$Directive" "flagMark" "Z", Cond.fieldLink RX2 47 "FormatDump$Directive" "flagZero" "Z", Cond.fieldLink RX2 86 "FormatDump$Directive" "starWidth" "Z", Cond.fieldLink RX2 89 "FormatDump$Directive" "starPrecision" "Z", Cond.fieldLink RX2 61 "FormatDump$Directive" "width" "I", Cond.fieldLink RX2 54 "FormatDump$Directive" "precision" "I", Cond.fieldLink RX2 92 "FormatDump$Directive" "bits" "I", Cond.methodLink RX2 18 yX2_readFlags, Cond.instanceMethod yX2_readFlags, Cond.selects RX2 yX2_readFlags yX2_readFlags, Cond.code yX2_readFlags cX2_readFlags 2 none, Cond.methodLink RX2 95 yX9_size, Cond.instanceMethod yX9_size, Cond.selects RX9 yX9_size yX9_size, Cond.code yX9_size cX9_size 1 (some .int), Cond.methodLink RX2 31 yX9_at, Cond.methodLink RX2 99 yX2_noteFlag, Cond.instanceMethod yX2_noteFlag, Cond.selects RX2 yX2_noteFlag yX2_noteFlag, Cond.code yX2_noteFlag cX2_noteFlag 2 (some .boolean), Cond.methodLink RX2 22 yX2_readWidth, Cond.instanceMethod yX2_readWidth]
def wsX8_readPiece_r4 : List Cond := [Cond.selects RX2 yX2_readWidth yX2_readWidth, Cond.code yX2_readWidth cX2_readWidth 2 none, Cond.methodLink RX2 103 yX2_readTwoDigits, Cond.instanceMethod yX2_readTwoDigits, Cond.selects RX2 yX2_readTwoDigits yX2_readTwoDigits, Cond.code yX2_readTwoDigits cX2_readTwoDigits 4 (some .int), Cond.methodLink RX2 25 yX2_readPrecision, Cond.instanceMethod yX2_readPrecision, Cond.selects RX2 yX2_readPrecision yX2_readPrecision, Cond.code yX2_readPrecision cX2_readPrecision 2 none, Cond.methodLink RX2 28 yX2_readLength, Cond.instanceMethod yX2_readLength, Cond.selects RX2 yX2_readLength yX2_readLength, Cond.code yX2_readLength cX2_readLength 3 none, Cond.methodLink RX2 40 yX2_isLetter, Cond.instanceMethod yX2_isLetter, Cond.selects RX2 yX2_isLetter yX2_isLetter, Cond.code yX2_isLetter cX2_isLetter 1 (some .boolean)]
def wsX8_readPiece : List Cond := .code yX8_readPiece cX8_readPiece 4 (some .int) :: ((wsX8_readPiece_r1 ++ (wsX8_readPiece_r2 ++ (wsX8_readPiece_r3 ++ wsX8_readPiece_r4))) ++ wsX80 ++ wsX20 ++ wsX90 ++ wsX30)
def wsX8_faultIn_r1 : List Cond := [Cond.methodLink RX8 52 yX9_size, Cond.instanceMethod yX9_size, Cond.selects RX9 yX9_size yX9_size, Cond.initialized RX9, Cond.code yX9_size cX9_size 1 (some .int), Cond.fieldLink RX9 19 "FormatDump$Row" "size" "I", Cond.methodLink RX8 56 yX8_readPiece, Cond.instanceMethod yX8_readPiece, Cond.selects RX8 yX8_readPiece yX8_readPiece, Cond.initialized RX8, Cond.code yX8_readPiece cX8_readPiece 4 (some .int), Cond.fieldLink RX8 26 "FormatDump$Printer" "escape" "LFormatDump$Escape;", Cond.fieldLink RX8 33 "FormatDump$Printer" "directive" "LFormatDump$Directive;", Cond.fieldLink RX8 91 "FormatDump$Directive" "end" "I", Cond.methodLink RX8 68 yX9_at, Cond.instanceMethod yX9_at, Cond.selects RX9 yX9_at yX9_at, Cond.code yX9_at cX9_at 2 (some .int), Cond.fieldLink RX9 9 "FormatDump$Row" "cells" "[I", Cond.methodLink RX8 81 yX3_readInFormat, Cond.instanceMethod yX3_readInFormat, Cond.selects RX3 yX3_readInFormat yX3_readInFormat, Cond.initialized RX3, Cond.code yX3_readInFormat cX3_readInFormat 3 (some .boolean)]
def wsX8_faultIn_r2 : List Cond := [Cond.fieldLink RX3 15 "FormatDump$Escape" "end" "I", Cond.methodLink RX3 18 yX3_readLetter, Cond.instanceMethod yX3_readLetter, Cond.selects RX3 yX3_readLetter yX3_readLetter, Cond.code yX3_readLetter cX3_readLetter 3 (some .boolean), Cond.fieldLink RX3 9 "FormatDump$Escape" "value" "I", Cond.methodLink RX3 26 yX9_at, Cond.methodLink RX3 32 yX3_meaningOf, Cond.static yX3_meaningOf, Cond.code yX3_meaningOf cX3_meaningOf 1 (some .int), Cond.methodLink RX3 22 yX3_readOctal, Cond.instanceMethod yX3_readOctal, Cond.selects RX3 yX3_readOctal yX3_readOctal, Cond.code yX3_readOctal cX3_readOctal 4 none, Cond.static yX11_digitOf, Cond.initialized RX11, Cond.code yX11_digitOf cX11_digitOf 3 (some .int), Cond.methodLink RX8 85 yX3_end, Cond.instanceMethod yX3_end, Cond.selects RX3 yX3_end yX3_end, Cond.code yX3_end cX3_end 1 (some .int), Cond.methodLink RX8 88 yX2_read, Cond.instanceMethod yX2_read, Cond.selects RX2 yX2_read yX2_read]
def wsX8_faultIn_r3 : List Cond := [Cond.initialized RX2, Cond.code yX2_read cX2_read 3 (some .boolean), Cond.fieldLink RX2 14 "FormatDump$Directive" "end" "I", Cond.fieldLink RX2 37 "FormatDump$Directive" "letter" "I", Cond.methodLink RX2 9 yX2_forget, Cond.instanceMethod yX2_forget, Cond.selects RX2 yX2_forget yX2_forget, Cond.code yX2_forget cX2_forget 1 none, Cond.fieldLink RX2 51 "FormatDump$Directive" "flagLeft" "Z", Cond.fieldLink RX2 77 "FormatDump$Directive" "flagPlus" "Z", Cond.fieldLink RX2 80 "FormatDump$Directive" "flagBlank" "Z", Cond.fieldLink RX2 83 "FormatDump$Directive" "flagMark" "Z", Cond.fieldLink RX2 47 "FormatDump$Directive" "flagZero" "Z", Cond.fieldLink RX2 86 "FormatDump$Directive" "starWidth" "Z", Cond.fieldLink RX2 89 "FormatDump$Directive" "starPrecision" "Z", Cond.fieldLink RX2 61 "FormatDump$Directive" "width" "I", Cond.fieldLink RX2 54 "FormatDump$Directive" "precision" "I", Cond.fieldLink RX2 92 "FormatDump$Directive" "bits" "I", Cond.methodLink RX2 18 yX2_readFlags, Cond.instanceMethod yX2_readFlags, Cond.selects RX2 yX2_readFlags yX2_readFlags, Cond.code yX2_readFlags cX2_readFlags 2 none, Cond.methodLink RX2 95 yX9_size, Cond.methodLink RX2 31 yX9_at]
def wsX8_faultIn_r4 : List Cond := [Cond.methodLink RX2 99 yX2_noteFlag, Cond.instanceMethod yX2_noteFlag, Cond.selects RX2 yX2_noteFlag yX2_noteFlag, Cond.code yX2_noteFlag cX2_noteFlag 2 (some .boolean), Cond.methodLink RX2 22 yX2_readWidth, Cond.instanceMethod yX2_readWidth, Cond.selects RX2 yX2_readWidth yX2_readWidth, Cond.code yX2_readWidth cX2_readWidth 2 none, Cond.methodLink RX2 103 yX2_readTwoDigits, Cond.instanceMethod yX2_readTwoDigits, Cond.selects RX2 yX2_readTwoDigits yX2_readTwoDigits, Cond.code yX2_readTwoDigits cX2_readTwoDigits 4 (some .int), Cond.methodLink RX2 25 yX2_readPrecision, Cond.instanceMethod yX2_readPrecision, Cond.selects RX2 yX2_readPrecision yX2_readPrecision, Cond.code yX2_readPrecision cX2_readPrecision 2 none, Cond.methodLink RX2 28 yX2_readLength, Cond.instanceMethod yX2_readLength, Cond.selects RX2 yX2_readLength yX2_readLength, Cond.code yX2_readLength cX2_readLength 3 none, Cond.methodLink RX2 40 yX2_isLetter, Cond.instanceMethod yX2_isLetter, Cond.selects RX2 yX2_isLetter yX2_isLetter, Cond.code yX2_isLetter cX2_isLetter 1 (some .boolean)]
def wsX8_faultIn : List Cond := .code yX8_faultIn cX8_faultIn 5 (some .int) :: ((wsX8_faultIn_r1 ++ (wsX8_faultIn_r2 ++ (wsX8_faultIn_r3 ++ wsX8_faultIn_r4))) ++ wsX90 ++ wsX80 ++ wsX20 ++ wsX30)
def wsX8_begin : List Cond := .code yX8_begin cX8_begin 1 none :: ([.fieldLink RX8 9 "FormatDump$Printer" "page" "LFormatDump$Row;", .fieldLink RX8 15 "FormatDump$Printer" "arguments" "LFormatDump$Arguments;", .fieldLink RX8 48 "FormatDump$Printer" "ended" "Z", .methodLink RX8 60 yX9_clear, .instanceMethod yX9_clear, .selects RX9 yX9_clear yX9_clear, .initialized RX9, .code yX9_clear cX9_clear 1 none, .fieldLink RX9 19 "FormatDump$Row" "size" "I", .fieldLink RX9 22 "FormatDump$Row" "over" "Z", .methodLink RX8 63 yX1_takeFromFront, .instanceMethod yX1_takeFromFront, .selects RX1 yX1_takeFromFront yX1_takeFromFront, .initialized RX1, .code yX1_takeFromFront cX1_takeFromFront 1 none, .fieldLink RX1 29 "FormatDump$Arguments" "taken" "I", .fieldLink RX1 32 "FormatDump$Arguments" "oddTexts" "I"] ++ wsX80 ++ wsX90 ++ wsX10)
def wsX8_hasEnded : List Cond := .code yX8_hasEnded cX8_hasEnded 1 (some .boolean) :: ([.fieldLink RX8 48 "FormatDump$Printer" "ended" "Z"] ++ wsX80)
def wsX8_loadCharacter_r1 : List Cond := [Cond.fieldLink RX8 42 "FormatDump$Printer" "piece" "LFormatDump$Row;", Cond.fieldLink RX8 137 "FormatDump$Argument" "isText" "Z", Cond.fieldLink RX8 142 "FormatDump$Argument" "value" "J", Cond.fieldLink RX8 145 "FormatDump$Argument" "characters" "LFormatDump$Row;", Cond.methodLink RX8 60 yX9_clear, Cond.instanceMethod yX9_clear, Cond.selects RX9 yX9_clear yX9_clear, Cond.initialized RX9, Cond.code yX9_clear cX9_clear 1 none, Cond.fieldLink RX9 19 "FormatDump$Row" "size" "I", Cond.fieldLink RX9 22 "FormatDump$Row" "over" "Z", Cond.methodLink RX8 75 yX9_add, Cond.instanceMethod yX9_add, Cond.selects RX9 yX9_add yX9_add, Cond.code yX9_add cX9_add 2 none, Cond.fieldLink RX9 15 "FormatDump$Row" "limit" "I", Cond.fieldLink RX9 9 "FormatDump$Row" "cells" "[I", Cond.methodLink RX8 52 yX9_size, Cond.instanceMethod yX9_size, Cond.selects RX9 yX9_size yX9_size, Cond.code yX9_size cX9_size 1 (some .int), Cond.methodLink RX8 68 yX9_at, Cond.instanceMethod yX9_at, Cond.selects RX9 yX9_at yX9_at]
def wsX8_loadCharacter_r2 : List Cond := [Cond.code yX9_at cX9_at 2 (some .int)]
def wsX8_loadCharacter : List Cond := .code yX8_loadCharacter cX8_loadCharacter 2 none :: ((wsX8_loadCharacter_r1 ++ wsX8_loadCharacter_r2) ++ wsX80 ++ wsX00 ++ wsX90)
def wsX8_printFilled_r1 : List Cond := [Cond.fieldLink RX8 33 "FormatDump$Printer" "directive" "LFormatDump$Directive;", Cond.fieldLink RX8 174 "FormatDump$Directive" "width" "I", Cond.fieldLink RX8 42 "FormatDump$Printer" "piece" "LFormatDump$Row;", Cond.fieldLink RX8 177 "FormatDump$Directive" "flagLeft" "Z", Cond.fieldLink RX8 9 "FormatDump$Printer" "page" "LFormatDump$Row;", Cond.methodLink RX8 52 yX9_size, Cond.instanceMethod yX9_size, Cond.selects RX9 yX9_size yX9_size, Cond.initialized RX9, Cond.code yX9_size cX9_size 1 (some .int), Cond.fieldLink RX9 19 "FormatDump$Row" "size" "I", Cond.methodLink RX8 180 yX9_addMany, Cond.instanceMethod yX9_addMany, Cond.selects RX9 yX9_addMany yX9_addMany, Cond.code yX9_addMany cX9_addMany 4 none, Cond.methodLink RX9 35 yX9_add, Cond.instanceMethod yX9_add, Cond.selects RX9 yX9_add yX9_add, Cond.code yX9_add cX9_add 2 none, Cond.fieldLink RX9 15 "FormatDump$Row" "limit" "I", Cond.fieldLink RX9 9 "FormatDump$Row" "cells" "[I", Cond.fieldLink RX9 22 "FormatDump$Row" "over" "Z", Cond.methodLink RX8 68 yX9_at, Cond.instanceMethod yX9_at]
def wsX8_printFilled_r2 : List Cond := [Cond.selects RX9 yX9_at yX9_at, Cond.code yX9_at cX9_at 2 (some .int), Cond.methodLink RX8 75 yX9_add]
def wsX8_printFilled : List Cond := .code yX8_printFilled cX8_printFilled 3 none :: ((wsX8_printFilled_r1 ++ wsX8_printFilled_r2) ++ wsX80 ++ wsX20 ++ wsX90)
def wsX8_loadNumber_r1 : List Cond := [Cond.fieldLink RX8 42 "FormatDump$Printer" "piece" "LFormatDump$Row;", Cond.fieldLink RX8 19 "FormatDump$Printer" "figures" "LFormatDump$Figures;", Cond.methodLink RX8 75 yX9_add, Cond.instanceMethod yX9_add, Cond.selects RX9 yX9_add yX9_add, Cond.initialized RX9, Cond.code yX9_add cX9_add 2 none, Cond.fieldLink RX9 19 "FormatDump$Row" "size" "I", Cond.fieldLink RX9 15 "FormatDump$Row" "limit" "I", Cond.fieldLink RX9 9 "FormatDump$Row" "cells" "[I", Cond.fieldLink RX9 22 "FormatDump$Row" "over" "Z", Cond.methodLink RX8 155 yX4_take, Cond.instanceMethod yX4_take, Cond.selects RX4 yX4_take yX4_take, Cond.initialized RX4, Cond.code yX4_take cX4_take 11 none, Cond.methodLink RX4 23 Lib.Math.max.name, Cond.static Lib.Math.max.name, Cond.initialized "java/lang/Math", Cond.code Lib.Math.max.name Lib.Math.max.code 2 (some .int), Cond.fieldLink RX4 15 "FormatDump$Figures" "size" "I", Cond.fieldLink RX4 19 "FormatDump$Figures" "large" "Z", Cond.fieldLink RX4 9 "FormatDump$Figures" "lowestFirst" "[I", Cond.methodLink RX8 161 yX4_writeTo]
def wsX8_loadNumber_r2 : List Cond := [Cond.instanceMethod yX4_writeTo, Cond.selects RX4 yX4_writeTo yX4_writeTo, Cond.code yX4_writeTo cX4_writeTo 4 none, Cond.methodLink RX4 29 yX4_characterOf, Cond.instanceMethod yX4_characterOf, Cond.selects RX4 yX4_characterOf yX4_characterOf, Cond.code yX4_characterOf cX4_characterOf 2 (some .int), Cond.methodLink RX4 33 yX9_add]
def wsX8_loadNumber : List Cond := .code yX8_loadNumber cX8_loadNumber 3 none :: ((wsX8_loadNumber_r1 ++ wsX8_loadNumber_r2) ++ wsX80 ++ wsX90 ++ wsX40)
def wsX8_loadText_r1 : List Cond := [Cond.fieldLink RX8 42 "FormatDump$Printer" "piece" "LFormatDump$Row;", Cond.fieldLink RX8 137 "FormatDump$Argument" "isText" "Z", Cond.fieldLink RX8 145 "FormatDump$Argument" "characters" "LFormatDump$Row;", Cond.fieldLink RX8 142 "FormatDump$Argument" "value" "J", Cond.methodLink RX8 60 yX9_clear, Cond.instanceMethod yX9_clear, Cond.selects RX9 yX9_clear yX9_clear, Cond.initialized RX9, Cond.code yX9_clear cX9_clear 1 none, Cond.fieldLink RX9 19 "FormatDump$Row" "size" "I", Cond.fieldLink RX9 22 "FormatDump$Row" "over" "Z", Cond.methodLink RX8 148 yX9_copyOf, Cond.instanceMethod yX9_copyOf, Cond.selects RX9 yX9_copyOf yX9_copyOf, Cond.code yX9_copyOf cX9_copyOf 3 none, Cond.methodLink RX9 39 yX9_clear, Cond.methodLink RX9 42 yX9_size, Cond.instanceMethod yX9_size, Cond.selects RX9 yX9_size yX9_size, Cond.code yX9_size cX9_size 1 (some .int), Cond.methodLink RX9 45 yX9_at, Cond.instanceMethod yX9_at, Cond.selects RX9 yX9_at yX9_at, Cond.code yX9_at cX9_at 2 (some .int)]
def wsX8_loadText_r2 : List Cond := [Cond.fieldLink RX9 9 "FormatDump$Row" "cells" "[I", Cond.methodLink RX9 35 yX9_add, Cond.instanceMethod yX9_add, Cond.selects RX9 yX9_add yX9_add, Cond.code yX9_add cX9_add 2 none, Cond.fieldLink RX9 15 "FormatDump$Row" "limit" "I", Cond.methodLink RX8 152 yX8_loadNumber, Cond.instanceMethod yX8_loadNumber, Cond.selects RX8 yX8_loadNumber yX8_loadNumber, Cond.initialized RX8, Cond.code yX8_loadNumber cX8_loadNumber 3 none, Cond.fieldLink RX8 19 "FormatDump$Printer" "figures" "LFormatDump$Figures;", Cond.methodLink RX8 75 yX9_add, Cond.methodLink RX8 155 yX4_take, Cond.instanceMethod yX4_take, Cond.selects RX4 yX4_take yX4_take, Cond.initialized RX4, Cond.code yX4_take cX4_take 11 none, Cond.methodLink RX4 23 Lib.Math.max.name, Cond.static Lib.Math.max.name, Cond.initialized "java/lang/Math", Cond.code Lib.Math.max.name Lib.Math.max.code 2 (some .int), Cond.fieldLink RX4 15 "FormatDump$Figures" "size" "I", Cond.fieldLink RX4 19 "FormatDump$Figures" "large" "Z"]
def wsX8_loadText_r3 : List Cond := [Cond.fieldLink RX4 9 "FormatDump$Figures" "lowestFirst" "[I", Cond.methodLink RX8 161 yX4_writeTo, Cond.instanceMethod yX4_writeTo, Cond.selects RX4 yX4_writeTo yX4_writeTo, Cond.code yX4_writeTo cX4_writeTo 4 none, Cond.methodLink RX4 29 yX4_characterOf, Cond.instanceMethod yX4_characterOf, Cond.selects RX4 yX4_characterOf yX4_characterOf, Cond.code yX4_characterOf cX4_characterOf 2 (some .int), Cond.methodLink RX4 33 yX9_add]
def wsX8_loadText : List Cond := .code yX8_loadText cX8_loadText 2 none :: ((wsX8_loadText_r1 ++ (wsX8_loadText_r2 ++ wsX8_loadText_r3)) ++ wsX80 ++ wsX00 ++ wsX90 ++ wsX40)
def wsX9_keepFirst : List Cond := .code yX9_keepFirst cX9_keepFirst 4 (some .int) :: ([.fieldLink RX9 19 "FormatDump$Row" "size" "I", .methodLink RX9 26 Lib.Math.min.name, .static Lib.Math.min.name, .initialized "java/lang/Math", .code Lib.Math.min.name Lib.Math.min.code 2 (some .int), .methodLink RX9 32 Lib.Math.max.name, .static Lib.Math.max.name, .code Lib.Math.max.name Lib.Math.max.code 2 (some .int)] ++ wsX90)
def wsX8_keepPrecision : List Cond := .code yX8_keepPrecision cX8_keepPrecision 1 none :: ([.fieldLink RX8 33 "FormatDump$Printer" "directive" "LFormatDump$Directive;", .fieldLink RX8 168 "FormatDump$Directive" "precision" "I", .fieldLink RX8 42 "FormatDump$Printer" "piece" "LFormatDump$Row;", .methodLink RX8 171 yX9_keepFirst, .instanceMethod yX9_keepFirst, .selects RX9 yX9_keepFirst yX9_keepFirst, .initialized RX9, .code yX9_keepFirst cX9_keepFirst 4 (some .int), .fieldLink RX9 19 "FormatDump$Row" "size" "I", .methodLink RX9 26 Lib.Math.min.name, .static Lib.Math.min.name, .initialized "java/lang/Math", .code Lib.Math.min.name Lib.Math.min.code 2 (some .int), .methodLink RX9 32 Lib.Math.max.name, .static Lib.Math.max.name, .code Lib.Math.max.name Lib.Math.max.code 2 (some .int)] ++ wsX80 ++ wsX20 ++ wsX90)
def wsX8_unescapePiece_r1 : List Cond := [Cond.fieldLink RX8 45 "FormatDump$Printer" "raw" "LFormatDump$Row;", Cond.fieldLink RX8 42 "FormatDump$Printer" "piece" "LFormatDump$Row;", Cond.fieldLink RX8 48 "FormatDump$Printer" "ended" "Z", Cond.fieldLink RX8 26 "FormatDump$Printer" "escape" "LFormatDump$Escape;", Cond.methodLink RX8 148 yX9_copyOf, Cond.instanceMethod yX9_copyOf, Cond.selects RX9 yX9_copyOf yX9_copyOf, Cond.initialized RX9, Cond.code yX9_copyOf cX9_copyOf 3 none, Cond.methodLink RX9 39 yX9_clear, Cond.instanceMethod yX9_clear, Cond.selects RX9 yX9_clear yX9_clear, Cond.code yX9_clear cX9_clear 1 none, Cond.fieldLink RX9 19 "FormatDump$Row" "size" "I", Cond.fieldLink RX9 22 "FormatDump$Row" "over" "Z", Cond.methodLink RX9 42 yX9_size, Cond.instanceMethod yX9_size, Cond.selects RX9 yX9_size yX9_size, Cond.code yX9_size cX9_size 1 (some .int), Cond.methodLink RX9 45 yX9_at, Cond.instanceMethod yX9_at, Cond.selects RX9 yX9_at yX9_at, Cond.code yX9_at cX9_at 2 (some .int), Cond.fieldLink RX9 9 "FormatDump$Row" "cells" "[I"]
def wsX8_unescapePiece_r2 : List Cond := [Cond.methodLink RX9 35 yX9_add, Cond.instanceMethod yX9_add, Cond.selects RX9 yX9_add yX9_add, Cond.code yX9_add cX9_add 2 none, Cond.fieldLink RX9 15 "FormatDump$Row" "limit" "I", Cond.methodLink RX8 60 yX9_clear, Cond.methodLink RX8 52 yX9_size, Cond.methodLink RX8 68 yX9_at, Cond.methodLink RX8 165 yX3_readInText, Cond.instanceMethod yX3_readInText, Cond.selects RX3 yX3_readInText yX3_readInText, Cond.initialized RX3, Cond.code yX3_readInText cX3_readInText 3 (some .boolean), Cond.methodLink RX3 18 yX3_readLetter, Cond.instanceMethod yX3_readLetter, Cond.selects RX3 yX3_readLetter yX3_readLetter, Cond.code yX3_readLetter cX3_readLetter 3 (some .boolean), Cond.fieldLink RX3 9 "FormatDump$Escape" "value" "I", Cond.fieldLink RX3 15 "FormatDump$Escape" "end" "I", Cond.methodLink RX3 26 yX9_at, Cond.methodLink RX3 32 yX3_meaningOf, Cond.static yX3_meaningOf, Cond.code yX3_meaningOf cX3_meaningOf 1 (some .int), Cond.methodLink RX3 22 yX3_readOctal]
def wsX8_unescapePiece_r3 : List Cond := [Cond.instanceMethod yX3_readOctal, Cond.selects RX3 yX3_readOctal yX3_readOctal, Cond.code yX3_readOctal cX3_readOctal 4 none, Cond.static yX11_digitOf, Cond.initialized RX11, Cond.code yX11_digitOf cX11_digitOf 3 (some .int), Cond.methodLink RX8 72 yX3_value, Cond.instanceMethod yX3_value, Cond.selects RX3 yX3_value yX3_value, Cond.code yX3_value cX3_value 1 (some .int), Cond.methodLink RX8 75 yX9_add, Cond.methodLink RX8 85 yX3_end, Cond.instanceMethod yX3_end, Cond.selects RX3 yX3_end yX3_end, Cond.code yX3_end cX3_end 1 (some .int)]
def wsX8_unescapePiece : List Cond := .code yX8_unescapePiece cX8_unescapePiece 4 none :: ((wsX8_unescapePiece_r1 ++ (wsX8_unescapePiece_r2 ++ wsX8_unescapePiece_r3)) ++ wsX80 ++ wsX90 ++ wsX30)
def wsX8_narrowed : List Cond := .code yX8_narrowed cX8_narrowed 6 (some .long) :: ([.fieldLink RX8 33 "FormatDump$Printer" "directive" "LFormatDump$Directive;", .fieldLink RX8 211 "FormatDump$Directive" "bits" "I", .methodLink RX8 188 yX2_isSigned, .instanceMethod yX2_isSigned, .selects RX2 yX2_isSigned yX2_isSigned, .initialized RX2, .code yX2_isSigned cX2_isSigned 1 (some .boolean), .fieldLink RX2 37 "FormatDump$Directive" "letter" "I"] ++ wsX80 ++ wsX20)
def wsX8_digitsDue : List Cond := .code yX8_digitsDue cX8_digitsDue 3 (some .int) :: ([.fieldLink RX8 33 "FormatDump$Printer" "directive" "LFormatDump$Directive;", .fieldLink RX8 168 "FormatDump$Directive" "precision" "I", .fieldLink RX8 19 "FormatDump$Printer" "figures" "LFormatDump$Figures;", .methodLink RX8 215 Lib.Math.max.name, .static Lib.Math.max.name, .initialized "java/lang/Math", .code Lib.Math.max.name Lib.Math.max.code 2 (some .int), .fieldLink RX8 198 "FormatDump$Directive" "flagMark" "Z", .fieldLink RX8 111 "FormatDump$Directive" "letter" "I", .methodLink RX8 214 yX4_size, .instanceMethod yX4_size, .selects RX4 yX4_size yX4_size, .initialized RX4, .code yX4_size cX4_size 1 (some .int), .fieldLink RX4 15 "FormatDump$Figures" "size" "I"] ++ wsX80 ++ wsX20 ++ wsX40)
def wsX8_signOf : List Cond := .code yX8_signOf cX8_signOf 2 (some .int) :: ([.fieldLink RX8 33 "FormatDump$Printer" "directive" "LFormatDump$Directive;", .fieldLink RX8 221 "FormatDump$Directive" "flagPlus" "Z", .fieldLink RX8 224 "FormatDump$Directive" "flagBlank" "Z", .methodLink RX8 188 yX2_isSigned, .instanceMethod yX2_isSigned, .selects RX2 yX2_isSigned yX2_isSigned, .initialized RX2, .code yX2_isSigned cX2_isSigned 1 (some .boolean), .fieldLink RX2 37 "FormatDump$Directive" "letter" "I"] ++ wsX80 ++ wsX20)
def wsX8_printNumber_r1 : List Cond := [Cond.fieldLink RX8 33 "FormatDump$Printer" "directive" "LFormatDump$Directive;", Cond.fieldLink RX8 19 "FormatDump$Printer" "figures" "LFormatDump$Figures;", Cond.fieldLink RX8 111 "FormatDump$Directive" "letter" "I", Cond.fieldLink RX8 198 "FormatDump$Directive" "flagMark" "Z", Cond.fieldLink RX8 174 "FormatDump$Directive" "width" "I", Cond.fieldLink RX8 177 "FormatDump$Directive" "flagLeft" "Z", Cond.fieldLink RX8 9 "FormatDump$Printer" "page" "LFormatDump$Row;", Cond.methodLink RX8 184 yX8_narrowed, Cond.instanceMethod yX8_narrowed, Cond.selects RX8 yX8_narrowed yX8_narrowed, Cond.initialized RX8, Cond.code yX8_narrowed cX8_narrowed 6 (some .long), Cond.fieldLink RX8 211 "FormatDump$Directive" "bits" "I", Cond.methodLink RX8 188 yX2_isSigned, Cond.instanceMethod yX2_isSigned, Cond.selects RX2 yX2_isSigned yX2_isSigned, Cond.initialized RX2, Cond.code yX2_isSigned cX2_isSigned 1 (some .boolean), Cond.fieldLink RX2 37 "FormatDump$Directive" "letter" "I", Cond.methodLink RX8 192 yX2_base, Cond.instanceMethod yX2_base, Cond.selects RX2 yX2_base yX2_base, Cond.code yX2_base cX2_base 1 (some .int), Cond.methodLink RX2 44 yX2_isHexadecimal]
def wsX8_printNumber_r2 : List Cond := [Cond.instanceMethod yX2_isHexadecimal, Cond.selects RX2 yX2_isHexadecimal yX2_isHexadecimal, Cond.code yX2_isHexadecimal cX2_isHexadecimal 1 (some .boolean), Cond.methodLink RX8 155 yX4_take, Cond.instanceMethod yX4_take, Cond.selects RX4 yX4_take yX4_take, Cond.initialized RX4, Cond.code yX4_take cX4_take 11 none, Cond.methodLink RX4 23 Lib.Math.max.name, Cond.static Lib.Math.max.name, Cond.initialized "java/lang/Math", Cond.code Lib.Math.max.name Lib.Math.max.code 2 (some .int), Cond.fieldLink RX4 15 "FormatDump$Figures" "size" "I", Cond.fieldLink RX4 19 "FormatDump$Figures" "large" "Z", Cond.fieldLink RX4 9 "FormatDump$Figures" "lowestFirst" "[I", Cond.methodLink RX8 195 yX8_digitsDue, Cond.instanceMethod yX8_digitsDue, Cond.selects RX8 yX8_digitsDue yX8_digitsDue, Cond.code yX8_digitsDue cX8_digitsDue 3 (some .int), Cond.fieldLink RX8 168 "FormatDump$Directive" "precision" "I", Cond.methodLink RX8 215 Lib.Math.max.name, Cond.methodLink RX8 214 yX4_size, Cond.instanceMethod yX4_size, Cond.selects RX4 yX4_size yX4_size]
def wsX8_printNumber_r3 : List Cond := [Cond.code yX4_size cX4_size 1 (some .int), Cond.methodLink RX8 201 yX2_isHexadecimal, Cond.methodLink RX8 204 yX8_signOf, Cond.instanceMethod yX8_signOf, Cond.selects RX8 yX8_signOf yX8_signOf, Cond.code yX8_signOf cX8_signOf 2 (some .int), Cond.fieldLink RX8 221 "FormatDump$Directive" "flagPlus" "Z", Cond.fieldLink RX8 224 "FormatDump$Directive" "flagBlank" "Z", Cond.methodLink RX8 208 yX2_fillsWithZeros, Cond.instanceMethod yX2_fillsWithZeros, Cond.selects RX2 yX2_fillsWithZeros yX2_fillsWithZeros, Cond.code yX2_fillsWithZeros cX2_fillsWithZeros 1 (some .boolean), Cond.fieldLink RX2 47 "FormatDump$Directive" "flagZero" "Z", Cond.fieldLink RX2 51 "FormatDump$Directive" "flagLeft" "Z", Cond.fieldLink RX2 54 "FormatDump$Directive" "precision" "I", Cond.methodLink RX8 180 yX9_addMany, Cond.instanceMethod yX9_addMany, Cond.selects RX9 yX9_addMany yX9_addMany, Cond.initialized RX9, Cond.code yX9_addMany cX9_addMany 4 none, Cond.methodLink RX9 35 yX9_add, Cond.instanceMethod yX9_add, Cond.selects RX9 yX9_add yX9_add, Cond.code yX9_add cX9_add 2 none]
def wsX8_printNumber_r4 : List Cond := [Cond.fieldLink RX9 19 "FormatDump$Row" "size" "I", Cond.fieldLink RX9 15 "FormatDump$Row" "limit" "I", Cond.fieldLink RX9 9 "FormatDump$Row" "cells" "[I", Cond.fieldLink RX9 22 "FormatDump$Row" "over" "Z", Cond.methodLink RX8 75 yX9_add, Cond.methodLink RX8 161 yX4_writeTo, Cond.instanceMethod yX4_writeTo, Cond.selects RX4 yX4_writeTo yX4_writeTo, Cond.code yX4_writeTo cX4_writeTo 4 none, Cond.methodLink RX4 29 yX4_characterOf, Cond.instanceMethod yX4_characterOf, Cond.selects RX4 yX4_characterOf yX4_characterOf, Cond.code yX4_characterOf cX4_characterOf 2 (some .int), Cond.methodLink RX4 33 yX9_add]
def wsX8_printNumber : List Cond := .code yX8_printNumber cX8_printNumber 12 none :: ((wsX8_printNumber_r1 ++ (wsX8_printNumber_r2 ++ (wsX8_printNumber_r3 ++ wsX8_printNumber_r4))) ++ wsX80 ++ wsX20 ++ wsX40 ++ wsX90)
def wsX8_printDirective_r1 : List Cond := [Cond.fieldLink RX8 33 "FormatDump$Printer" "directive" "LFormatDump$Directive;", Cond.fieldLink RX8 94 "FormatDump$Directive" "starWidth" "Z", Cond.fieldLink RX8 15 "FormatDump$Printer" "arguments" "LFormatDump$Arguments;", Cond.fieldLink RX8 105 "FormatDump$Directive" "starPrecision" "Z", Cond.fieldLink RX8 111 "FormatDump$Directive" "letter" "I", Cond.methodLink RX8 97 yX1_takeNumber, Cond.instanceMethod yX1_takeNumber, Cond.selects RX1 yX1_takeNumber yX1_takeNumber, Cond.initialized RX1, Cond.code yX1_takeNumber cX1_takeNumber 2 (some .long), Cond.fieldLink RX1 35 "FormatDump$Argument" "isText" "Z", Cond.fieldLink RX1 39 "FormatDump$Argument" "value" "J", Cond.fieldLink RX1 21 "FormatDump$Arguments" "reading" "LFormatDump$NumberReading;", Cond.fieldLink RX1 43 "FormatDump$Argument" "characters" "LFormatDump$Row;", Cond.fieldLink RX1 32 "FormatDump$Arguments" "oddTexts" "I", Cond.methodLink RX1 53 yX1_takeNext, Cond.instanceMethod yX1_takeNext, Cond.selects RX1 yX1_takeNext yX1_takeNext, Cond.code yX1_takeNext cX1_takeNext 1 (some (.object "FormatDump$Argument")), Cond.fieldLink RX1 29 "FormatDump$Arguments" "taken" "I", Cond.fieldLink RX1 25 "FormatDump$Arguments" "count" "I", Cond.fieldLink RX1 11 "FormatDump$Arguments" "all" "[LFormatDump$Argument;", Cond.methodLink RX1 57 yX5_read, Cond.instanceMethod yX5_read]
def wsX8_printDirective_r2 : List Cond := [Cond.selects RX5 yX5_read yX5_read, Cond.initialized RX5, Cond.code yX5_read cX5_read 4 none, Cond.fieldLink RX5 9 "FormatDump$NumberReading" "value" "J", Cond.methodLink RX5 19 yX9_at, Cond.instanceMethod yX9_at, Cond.selects RX9 yX9_at yX9_at, Cond.initialized RX9, Cond.code yX9_at cX9_at 2 (some .int), Cond.fieldLink RX9 19 "FormatDump$Row" "size" "I", Cond.fieldLink RX9 9 "FormatDump$Row" "cells" "[I", Cond.methodLink RX5 25 yX5_readCharacter, Cond.instanceMethod yX5_readCharacter, Cond.selects RX5 yX5_readCharacter yX5_readCharacter, Cond.code yX5_readCharacter cX5_readCharacter 2 none, Cond.fieldLink RX5 15 "FormatDump$NumberReading" "odd" "Z", Cond.methodLink RX5 37 yX9_size, Cond.instanceMethod yX9_size, Cond.selects RX9 yX9_size yX9_size, Cond.code yX9_size cX9_size 1 (some .int), Cond.methodLink RX5 29 yX5_readDigits, Cond.instanceMethod yX5_readDigits, Cond.selects RX5 yX5_readDigits yX5_readDigits, Cond.code yX5_readDigits cX5_readDigits 5 none]
def wsX8_printDirective_r3 : List Cond := [Cond.static yX11_digitOf, Cond.initialized RX11, Cond.code yX11_digitOf cX11_digitOf 3 (some .int), Cond.methodLink RX5 33 yX5_isHexadecimal, Cond.static yX5_isHexadecimal, Cond.code yX5_isHexadecimal cX5_isHexadecimal 3 (some .boolean), Cond.methodLink RX1 60 yX5_isOdd, Cond.instanceMethod yX5_isOdd, Cond.selects RX5 yX5_isOdd yX5_isOdd, Cond.code yX5_isOdd cX5_isOdd 1 (some .boolean), Cond.methodLink RX1 64 yX5_value, Cond.instanceMethod yX5_value, Cond.selects RX5 yX5_value yX5_value, Cond.code yX5_value cX5_value 1 (some .long), Cond.methodLink RX8 101 yX2_takeWidth, Cond.instanceMethod yX2_takeWidth, Cond.selects RX2 yX2_takeWidth yX2_takeWidth, Cond.initialized RX2, Cond.code yX2_takeWidth cX2_takeWidth 4 none, Cond.fieldLink RX2 51 "FormatDump$Directive" "flagLeft" "Z", Cond.fieldLink RX2 61 "FormatDump$Directive" "width" "I", Cond.methodLink RX2 57 yX2_cutToStar, Cond.static yX2_cutToStar, Cond.code yX2_cutToStar cX2_cutToStar 2 (some .int)]
def wsX8_printDirective_r4 : List Cond := [Cond.constantLong RX2 64 (-99), Cond.constantLong RX2 66 (99), Cond.methodLink RX2 68 Lib.MathLoose.min_long.x, Cond.static Lib.MathLoose.min_long.x, Cond.initialized "java/lang/Math", Cond.code Lib.MathLoose.min_long.x Lib.MathLoose.min_long.code 4 (some .long), Cond.methodLink RX2 74 Lib.MathLoose.max_long.x, Cond.static Lib.MathLoose.max_long.x, Cond.code Lib.MathLoose.max_long.x Lib.MathLoose.max_long.code 4 (some .long), Cond.methodLink RX8 108 yX2_takePrecision, Cond.instanceMethod yX2_takePrecision, Cond.selects RX2 yX2_takePrecision yX2_takePrecision, Cond.code yX2_takePrecision cX2_takePrecision 3 none, Cond.fieldLink RX2 54 "FormatDump$Directive" "precision" "I", Cond.methodLink RX8 114 yX1_takeNext, Cond.methodLink RX8 118 yX8_loadCharacter, Cond.instanceMethod yX8_loadCharacter, Cond.selects RX8 yX8_loadCharacter yX8_loadCharacter, Cond.initialized RX8, Cond.code yX8_loadCharacter cX8_loadCharacter 2 none, Cond.fieldLink RX8 42 "FormatDump$Printer" "piece" "LFormatDump$Row;", Cond.fieldLink RX8 137 "FormatDump$Argument" "isText" "Z", Cond.fieldLink RX8 142 "FormatDump$Argument" "value" "J", Cond.fieldLink RX8 145 "FormatDump$Argument" "characters" "LFormatDump$Row;"]
def wsX8_printDirective_r5 : List Cond := [Cond.methodLink RX8 60 yX9_clear, Cond.instanceMethod yX9_clear, Cond.selects RX9 yX9_clear yX9_clear, Cond.code yX9_clear cX9_clear 1 none, Cond.fieldLink RX9 22 "FormatDump$Row" "over" "Z", Cond.methodLink RX8 75 yX9_add, Cond.instanceMethod yX9_add, Cond.selects RX9 yX9_add yX9_add, Cond.code yX9_add cX9_add 2 none, Cond.fieldLink RX9 15 "FormatDump$Row" "limit" "I", Cond.methodLink RX8 52 yX9_size, Cond.methodLink RX8 68 yX9_at, Cond.methodLink RX8 122 yX8_printFilled, Cond.instanceMethod yX8_printFilled, Cond.selects RX8 yX8_printFilled yX8_printFilled, Cond.code yX8_printFilled cX8_printFilled 3 none, Cond.fieldLink RX8 174 "FormatDump$Directive" "width" "I", Cond.fieldLink RX8 177 "FormatDump$Directive" "flagLeft" "Z", Cond.fieldLink RX8 9 "FormatDump$Printer" "page" "LFormatDump$Row;", Cond.methodLink RX8 180 yX9_addMany, Cond.instanceMethod yX9_addMany, Cond.selects RX9 yX9_addMany yX9_addMany, Cond.code yX9_addMany cX9_addMany 4 none, Cond.methodLink RX9 35 yX9_add]
def wsX8_printDirective_r6 : List Cond := [Cond.methodLink RX8 125 yX8_loadText, Cond.instanceMethod yX8_loadText, Cond.selects RX8 yX8_loadText yX8_loadText, Cond.code yX8_loadText cX8_loadText 2 none, Cond.methodLink RX8 148 yX9_copyOf, Cond.instanceMethod yX9_copyOf, Cond.selects RX9 yX9_copyOf yX9_copyOf, Cond.code yX9_copyOf cX9_copyOf 3 none, Cond.methodLink RX9 39 yX9_clear, Cond.methodLink RX9 42 yX9_size, Cond.methodLink RX9 45 yX9_at, Cond.methodLink RX8 152 yX8_loadNumber, Cond.instanceMethod yX8_loadNumber, Cond.selects RX8 yX8_loadNumber yX8_loadNumber, Cond.code yX8_loadNumber cX8_loadNumber 3 none, Cond.fieldLink RX8 19 "FormatDump$Printer" "figures" "LFormatDump$Figures;", Cond.methodLink RX8 155 yX4_take, Cond.instanceMethod yX4_take, Cond.selects RX4 yX4_take yX4_take, Cond.initialized RX4, Cond.code yX4_take cX4_take 11 none, Cond.methodLink RX4 23 Lib.Math.max.name, Cond.static Lib.Math.max.name, Cond.code Lib.Math.max.name Lib.Math.max.code 2 (some .int)]
def wsX8_printDirective_r7 : List Cond := [Cond.fieldLink RX4 15 "FormatDump$Figures" "size" "I", Cond.fieldLink RX4 19 "FormatDump$Figures" "large" "Z", Cond.fieldLink RX4 9 "FormatDump$Figures" "lowestFirst" "[I", Cond.methodLink RX8 161 yX4_writeTo, Cond.instanceMethod yX4_writeTo, Cond.selects RX4 yX4_writeTo yX4_writeTo, Cond.code yX4_writeTo cX4_writeTo 4 none, Cond.methodLink RX4 29 yX4_characterOf, Cond.instanceMethod yX4_characterOf, Cond.selects RX4 yX4_characterOf yX4_characterOf, Cond.code yX4_characterOf cX4_characterOf 2 (some .int), Cond.methodLink RX4 33 yX9_add, Cond.methodLink RX8 128 yX8_keepPrecision, Cond.instanceMethod yX8_keepPrecision, Cond.selects RX8 yX8_keepPrecision yX8_keepPrecision, Cond.code yX8_keepPrecision cX8_keepPrecision 1 none, Cond.fieldLink RX8 168 "FormatDump$Directive" "precision" "I", Cond.methodLink RX8 171 yX9_keepFirst, Cond.instanceMethod yX9_keepFirst, Cond.selects RX9 yX9_keepFirst yX9_keepFirst, Cond.code yX9_keepFirst cX9_keepFirst 4 (some .int), Cond.methodLink RX9 26 Lib.Math.min.name, Cond.static Lib.Math.min.name, Cond.code Lib.Math.min.name Lib.Math.min.code 2 (some .int)]
def wsX8_printDirective_r8 : List Cond := [Cond.methodLink RX9 32 Lib.Math.max.name, Cond.methodLink RX8 131 yX8_unescapePiece, Cond.instanceMethod yX8_unescapePiece, Cond.selects RX8 yX8_unescapePiece yX8_unescapePiece, Cond.code yX8_unescapePiece cX8_unescapePiece 4 none, Cond.fieldLink RX8 45 "FormatDump$Printer" "raw" "LFormatDump$Row;", Cond.fieldLink RX8 48 "FormatDump$Printer" "ended" "Z", Cond.fieldLink RX8 26 "FormatDump$Printer" "escape" "LFormatDump$Escape;", Cond.methodLink RX8 165 yX3_readInText, Cond.instanceMethod yX3_readInText, Cond.selects RX3 yX3_readInText yX3_readInText, Cond.initialized RX3, Cond.code yX3_readInText cX3_readInText 3 (some .boolean), Cond.methodLink RX3 18 yX3_readLetter, Cond.instanceMethod yX3_readLetter, Cond.selects RX3 yX3_readLetter yX3_readLetter, Cond.code yX3_readLetter cX3_readLetter 3 (some .boolean), Cond.fieldLink RX3 9 "FormatDump$Escape" "value" "I", Cond.fieldLink RX3 15 "FormatDump$Escape" "end" "I", Cond.methodLink RX3 26 yX9_at, Cond.methodLink RX3 32 yX3_meaningOf, Cond.static yX3_meaningOf, Cond.code yX3_meaningOf cX3_meaningOf 1 (some .int), Cond.methodLink RX3 22 yX3_readOctal]
def wsX8_printDirective_r9 : List Cond := [Cond.instanceMethod yX3_readOctal, Cond.selects RX3 yX3_readOctal yX3_readOctal, Cond.code yX3_readOctal cX3_readOctal 4 none, Cond.methodLink RX8 72 yX3_value, Cond.instanceMethod yX3_value, Cond.selects RX3 yX3_value yX3_value, Cond.code yX3_value cX3_value 1 (some .int), Cond.methodLink RX8 85 yX3_end, Cond.instanceMethod yX3_end, Cond.selects RX3 yX3_end yX3_end, Cond.code yX3_end cX3_end 1 (some .int), Cond.methodLink RX8 134 yX8_printNumber, Cond.instanceMethod yX8_printNumber, Cond.selects RX8 yX8_printNumber yX8_printNumber, Cond.code yX8_printNumber cX8_printNumber 12 none, Cond.fieldLink RX8 198 "FormatDump$Directive" "flagMark" "Z", Cond.methodLink RX8 184 yX8_narrowed, Cond.instanceMethod yX8_narrowed, Cond.selects RX8 yX8_narrowed yX8_narrowed, Cond.code yX8_narrowed cX8_narrowed 6 (some .long), Cond.fieldLink RX8 211 "FormatDump$Directive" "bits" "I", Cond.methodLink RX8 188 yX2_isSigned, Cond.instanceMethod yX2_isSigned, Cond.selects RX2 yX2_isSigned yX2_isSigned]
def wsX8_printDirective_r10 : List Cond := [Cond.code yX2_isSigned cX2_isSigned 1 (some .boolean), Cond.fieldLink RX2 37 "FormatDump$Directive" "letter" "I", Cond.methodLink RX8 192 yX2_base, Cond.instanceMethod yX2_base, Cond.selects RX2 yX2_base yX2_base, Cond.code yX2_base cX2_base 1 (some .int), Cond.methodLink RX2 44 yX2_isHexadecimal, Cond.instanceMethod yX2_isHexadecimal, Cond.selects RX2 yX2_isHexadecimal yX2_isHexadecimal, Cond.code yX2_isHexadecimal cX2_isHexadecimal 1 (some .boolean), Cond.methodLink RX8 195 yX8_digitsDue, Cond.instanceMethod yX8_digitsDue, Cond.selects RX8 yX8_digitsDue yX8_digitsDue, Cond.code yX8_digitsDue cX8_digitsDue 3 (some .int), Cond.methodLink RX8 215 Lib.Math.max.name, Cond.methodLink RX8 214 yX4_size, Cond.instanceMethod yX4_size, Cond.selects RX4 yX4_size yX4_size, Cond.code yX4_size cX4_size 1 (some .int), Cond.methodLink RX8 201 yX2_isHexadecimal, Cond.methodLink RX8 204 yX8_signOf, Cond.instanceMethod yX8_signOf, Cond.selects RX8 yX8_signOf yX8_signOf, Cond.code yX8_signOf cX8_signOf 2 (some .int)]
def wsX8_printDirective_r11 : List Cond := [Cond.fieldLink RX8 221 "FormatDump$Directive" "flagPlus" "Z", Cond.fieldLink RX8 224 "FormatDump$Directive" "flagBlank" "Z", Cond.methodLink RX8 208 yX2_fillsWithZeros, Cond.instanceMethod yX2_fillsWithZeros, Cond.selects RX2 yX2_fillsWithZeros yX2_fillsWithZeros, Cond.code yX2_fillsWithZeros cX2_fillsWithZeros 1 (some .boolean), Cond.fieldLink RX2 47 "FormatDump$Directive" "flagZero" "Z"]
def wsX8_printDirective : List Cond := .code yX8_printDirective cX8_printDirective 1 none :: ((wsX8_printDirective_r1 ++ (wsX8_printDirective_r2 ++ (wsX8_printDirective_r3 ++ (wsX8_printDirective_r4 ++ (wsX8_printDirective_r5 ++ (wsX8_printDirective_r6 ++ (wsX8_printDirective_r7 ++ (wsX8_printDirective_r8 ++ (wsX8_printDirective_r9 ++ (wsX8_printDirective_r10 ++ wsX8_printDirective_r11)))))))))) ++ wsX80 ++ wsX20 ++ wsX00 ++ wsX10 ++ wsX50 ++ wsX90 ++ wsX40 ++ wsX30)
def wsX8_printOnce_r1 : List Cond := [Cond.fieldLink RX8 48 "FormatDump$Printer" "ended" "Z", Cond.fieldLink RX8 9 "FormatDump$Printer" "page" "LFormatDump$Row;", Cond.fieldLink RX8 26 "FormatDump$Printer" "escape" "LFormatDump$Escape;", Cond.methodLink RX8 52 yX9_size, Cond.instanceMethod yX9_size, Cond.selects RX9 yX9_size yX9_size, Cond.initialized RX9, Cond.code yX9_size cX9_size 1 (some .int), Cond.fieldLink RX9 19 "FormatDump$Row" "size" "I", Cond.methodLink RX8 68 yX9_at, Cond.instanceMethod yX9_at, Cond.selects RX9 yX9_at yX9_at, Cond.code yX9_at cX9_at 2 (some .int), Cond.fieldLink RX9 9 "FormatDump$Row" "cells" "[I", Cond.methodLink RX8 56 yX8_readPiece, Cond.instanceMethod yX8_readPiece, Cond.selects RX8 yX8_readPiece yX8_readPiece, Cond.initialized RX8, Cond.code yX8_readPiece cX8_readPiece 4 (some .int), Cond.fieldLink RX8 33 "FormatDump$Printer" "directive" "LFormatDump$Directive;", Cond.fieldLink RX8 91 "FormatDump$Directive" "end" "I", Cond.methodLink RX8 81 yX3_readInFormat, Cond.instanceMethod yX3_readInFormat, Cond.selects RX3 yX3_readInFormat yX3_readInFormat]
def wsX8_printOnce_r2 : List Cond := [Cond.initialized RX3, Cond.code yX3_readInFormat cX3_readInFormat 3 (some .boolean), Cond.fieldLink RX3 15 "FormatDump$Escape" "end" "I", Cond.methodLink RX3 18 yX3_readLetter, Cond.instanceMethod yX3_readLetter, Cond.selects RX3 yX3_readLetter yX3_readLetter, Cond.code yX3_readLetter cX3_readLetter 3 (some .boolean), Cond.fieldLink RX3 9 "FormatDump$Escape" "value" "I", Cond.methodLink RX3 26 yX9_at, Cond.methodLink RX3 32 yX3_meaningOf, Cond.static yX3_meaningOf, Cond.code yX3_meaningOf cX3_meaningOf 1 (some .int), Cond.methodLink RX3 22 yX3_readOctal, Cond.instanceMethod yX3_readOctal, Cond.selects RX3 yX3_readOctal yX3_readOctal, Cond.code yX3_readOctal cX3_readOctal 4 none, Cond.static yX11_digitOf, Cond.initialized RX11, Cond.code yX11_digitOf cX11_digitOf 3 (some .int), Cond.methodLink RX8 85 yX3_end, Cond.instanceMethod yX3_end, Cond.selects RX3 yX3_end yX3_end, Cond.code yX3_end cX3_end 1 (some .int), Cond.methodLink RX8 88 yX2_read]
def wsX8_printOnce_r3 : List Cond := [Cond.instanceMethod yX2_read, Cond.selects RX2 yX2_read yX2_read, Cond.initialized RX2, Cond.code yX2_read cX2_read 3 (some .boolean), Cond.fieldLink RX2 14 "FormatDump$Directive" "end" "I", Cond.fieldLink RX2 37 "FormatDump$Directive" "letter" "I", Cond.methodLink RX2 9 yX2_forget, Cond.instanceMethod yX2_forget, Cond.selects RX2 yX2_forget yX2_forget, Cond.code yX2_forget cX2_forget 1 none, Cond.fieldLink RX2 51 "FormatDump$Directive" "flagLeft" "Z", Cond.fieldLink RX2 77 "FormatDump$Directive" "flagPlus" "Z", Cond.fieldLink RX2 80 "FormatDump$Directive" "flagBlank" "Z", Cond.fieldLink RX2 83 "FormatDump$Directive" "flagMark" "Z", Cond.fieldLink RX2 47 "FormatDump$Directive" "flagZero" "Z", Cond.fieldLink RX2 86 "FormatDump$Directive" "starWidth" "Z", Cond.fieldLink RX2 89 "FormatDump$Directive" "starPrecision" "Z", Cond.fieldLink RX2 61 "FormatDump$Directive" "width" "I", Cond.fieldLink RX2 54 "FormatDump$Directive" "precision" "I", Cond.fieldLink RX2 92 "FormatDump$Directive" "bits" "I", Cond.methodLink RX2 18 yX2_readFlags, Cond.instanceMethod yX2_readFlags, Cond.selects RX2 yX2_readFlags yX2_readFlags, Cond.code yX2_readFlags cX2_readFlags 2 none]
def wsX8_printOnce_r4 : List Cond := [Cond.methodLink RX2 95 yX9_size, Cond.methodLink RX2 31 yX9_at, Cond.methodLink RX2 99 yX2_noteFlag, Cond.instanceMethod yX2_noteFlag, Cond.selects RX2 yX2_noteFlag yX2_noteFlag, Cond.code yX2_noteFlag cX2_noteFlag 2 (some .boolean), Cond.methodLink RX2 22 yX2_readWidth, Cond.instanceMethod yX2_readWidth, Cond.selects RX2 yX2_readWidth yX2_readWidth, Cond.code yX2_readWidth cX2_readWidth 2 none, Cond.methodLink RX2 103 yX2_readTwoDigits, Cond.instanceMethod yX2_readTwoDigits, Cond.selects RX2 yX2_readTwoDigits yX2_readTwoDigits, Cond.code yX2_readTwoDigits cX2_readTwoDigits 4 (some .int), Cond.methodLink RX2 25 yX2_readPrecision, Cond.instanceMethod yX2_readPrecision, Cond.selects RX2 yX2_readPrecision yX2_readPrecision, Cond.code yX2_readPrecision cX2_readPrecision 2 none, Cond.methodLink RX2 28 yX2_readLength, Cond.instanceMethod yX2_readLength, Cond.selects RX2 yX2_readLength yX2_readLength, Cond.code yX2_readLength cX2_readLength 3 none, Cond.methodLink RX2 40 yX2_isLetter, Cond.instanceMethod yX2_isLetter]
def wsX8_printOnce_r5 : List Cond := [Cond.selects RX2 yX2_isLetter yX2_isLetter, Cond.code yX2_isLetter cX2_isLetter 1 (some .boolean), Cond.methodLink RX8 72 yX3_value, Cond.instanceMethod yX3_value, Cond.selects RX3 yX3_value yX3_value, Cond.code yX3_value cX3_value 1 (some .int), Cond.methodLink RX8 75 yX9_add, Cond.instanceMethod yX9_add, Cond.selects RX9 yX9_add yX9_add, Cond.code yX9_add cX9_add 2 none, Cond.fieldLink RX9 15 "FormatDump$Row" "limit" "I", Cond.fieldLink RX9 22 "FormatDump$Row" "over" "Z", Cond.methodLink RX8 78 yX8_printDirective, Cond.instanceMethod yX8_printDirective, Cond.selects RX8 yX8_printDirective yX8_printDirective, Cond.code yX8_printDirective cX8_printDirective 1 none, Cond.fieldLink RX8 94 "FormatDump$Directive" "starWidth" "Z", Cond.fieldLink RX8 15 "FormatDump$Printer" "arguments" "LFormatDump$Arguments;", Cond.fieldLink RX8 105 "FormatDump$Directive" "starPrecision" "Z", Cond.fieldLink RX8 111 "FormatDump$Directive" "letter" "I", Cond.methodLink RX8 97 yX1_takeNumber, Cond.instanceMethod yX1_takeNumber, Cond.selects RX1 yX1_takeNumber yX1_takeNumber, Cond.initialized RX1]
def wsX8_printOnce_r6 : List Cond := [Cond.code yX1_takeNumber cX1_takeNumber 2 (some .long), Cond.fieldLink RX1 35 "FormatDump$Argument" "isText" "Z", Cond.fieldLink RX1 39 "FormatDump$Argument" "value" "J", Cond.fieldLink RX1 21 "FormatDump$Arguments" "reading" "LFormatDump$NumberReading;", Cond.fieldLink RX1 43 "FormatDump$Argument" "characters" "LFormatDump$Row;", Cond.fieldLink RX1 32 "FormatDump$Arguments" "oddTexts" "I", Cond.methodLink RX1 53 yX1_takeNext, Cond.instanceMethod yX1_takeNext, Cond.selects RX1 yX1_takeNext yX1_takeNext, Cond.code yX1_takeNext cX1_takeNext 1 (some (.object "FormatDump$Argument")), Cond.fieldLink RX1 29 "FormatDump$Arguments" "taken" "I", Cond.fieldLink RX1 25 "FormatDump$Arguments" "count" "I", Cond.fieldLink RX1 11 "FormatDump$Arguments" "all" "[LFormatDump$Argument;", Cond.methodLink RX1 57 yX5_read, Cond.instanceMethod yX5_read, Cond.selects RX5 yX5_read yX5_read, Cond.initialized RX5, Cond.code yX5_read cX5_read 4 none, Cond.fieldLink RX5 9 "FormatDump$NumberReading" "value" "J", Cond.methodLink RX5 19 yX9_at, Cond.methodLink RX5 25 yX5_readCharacter, Cond.instanceMethod yX5_readCharacter, Cond.selects RX5 yX5_readCharacter yX5_readCharacter, Cond.code yX5_readCharacter cX5_readCharacter 2 none]
def wsX8_printOnce_r7 : List Cond := [Cond.fieldLink RX5 15 "FormatDump$NumberReading" "odd" "Z", Cond.methodLink RX5 37 yX9_size, Cond.methodLink RX5 29 yX5_readDigits, Cond.instanceMethod yX5_readDigits, Cond.selects RX5 yX5_readDigits yX5_readDigits, Cond.code yX5_readDigits cX5_readDigits 5 none, Cond.methodLink RX5 33 yX5_isHexadecimal, Cond.static yX5_isHexadecimal, Cond.code yX5_isHexadecimal cX5_isHexadecimal 3 (some .boolean), Cond.methodLink RX1 60 yX5_isOdd, Cond.instanceMethod yX5_isOdd, Cond.selects RX5 yX5_isOdd yX5_isOdd, Cond.code yX5_isOdd cX5_isOdd 1 (some .boolean), Cond.methodLink RX1 64 yX5_value, Cond.instanceMethod yX5_value, Cond.selects RX5 yX5_value yX5_value, Cond.code yX5_value cX5_value 1 (some .long), Cond.methodLink RX8 101 yX2_takeWidth, Cond.instanceMethod yX2_takeWidth, Cond.selects RX2 yX2_takeWidth yX2_takeWidth, Cond.code yX2_takeWidth cX2_takeWidth 4 none, Cond.methodLink RX2 57 yX2_cutToStar, Cond.static yX2_cutToStar, Cond.code yX2_cutToStar cX2_cutToStar 2 (some .int)]
def wsX8_printOnce_r8 : List Cond := [Cond.constantLong RX2 64 (-99), Cond.constantLong RX2 66 (99), Cond.methodLink RX2 68 Lib.MathLoose.min_long.x, Cond.static Lib.MathLoose.min_long.x, Cond.initialized "java/lang/Math", Cond.code Lib.MathLoose.min_long.x Lib.MathLoose.min_long.code 4 (some .long), Cond.methodLink RX2 74 Lib.MathLoose.max_long.x, Cond.static Lib.MathLoose.max_long.x, Cond.code Lib.MathLoose.max_long.x Lib.MathLoose.max_long.code 4 (some .long), Cond.methodLink RX8 108 yX2_takePrecision, Cond.instanceMethod yX2_takePrecision, Cond.selects RX2 yX2_takePrecision yX2_takePrecision, Cond.code yX2_takePrecision cX2_takePrecision 3 none, Cond.methodLink RX8 114 yX1_takeNext, Cond.methodLink RX8 118 yX8_loadCharacter, Cond.instanceMethod yX8_loadCharacter, Cond.selects RX8 yX8_loadCharacter yX8_loadCharacter, Cond.code yX8_loadCharacter cX8_loadCharacter 2 none, Cond.fieldLink RX8 42 "FormatDump$Printer" "piece" "LFormatDump$Row;", Cond.fieldLink RX8 137 "FormatDump$Argument" "isText" "Z", Cond.fieldLink RX8 142 "FormatDump$Argument" "value" "J", Cond.fieldLink RX8 145 "FormatDump$Argument" "characters" "LFormatDump$Row;", Cond.methodLink RX8 60 yX9_clear, Cond.instanceMethod yX9_clear]
def wsX8_printOnce_r9 : List Cond := [Cond.selects RX9 yX9_clear yX9_clear, Cond.code yX9_clear cX9_clear 1 none, Cond.methodLink RX8 122 yX8_printFilled, Cond.instanceMethod yX8_printFilled, Cond.selects RX8 yX8_printFilled yX8_printFilled, Cond.code yX8_printFilled cX8_printFilled 3 none, Cond.fieldLink RX8 174 "FormatDump$Directive" "width" "I", Cond.fieldLink RX8 177 "FormatDump$Directive" "flagLeft" "Z", Cond.methodLink RX8 180 yX9_addMany, Cond.instanceMethod yX9_addMany, Cond.selects RX9 yX9_addMany yX9_addMany, Cond.code yX9_addMany cX9_addMany 4 none, Cond.methodLink RX9 35 yX9_add, Cond.methodLink RX8 125 yX8_loadText, Cond.instanceMethod yX8_loadText, Cond.selects RX8 yX8_loadText yX8_loadText, Cond.code yX8_loadText cX8_loadText 2 none, Cond.methodLink RX8 148 yX9_copyOf, Cond.instanceMethod yX9_copyOf, Cond.selects RX9 yX9_copyOf yX9_copyOf, Cond.code yX9_copyOf cX9_copyOf 3 none, Cond.methodLink RX9 39 yX9_clear, Cond.methodLink RX9 42 yX9_size, Cond.methodLink RX9 45 yX9_at]
def wsX8_printOnce_r10 : List Cond := [Cond.methodLink RX8 152 yX8_loadNumber, Cond.instanceMethod yX8_loadNumber, Cond.selects RX8 yX8_loadNumber yX8_loadNumber, Cond.code yX8_loadNumber cX8_loadNumber 3 none, Cond.fieldLink RX8 19 "FormatDump$Printer" "figures" "LFormatDump$Figures;", Cond.methodLink RX8 155 yX4_take, Cond.instanceMethod yX4_take, Cond.selects RX4 yX4_take yX4_take, Cond.initialized RX4, Cond.code yX4_take cX4_take 11 none, Cond.methodLink RX4 23 Lib.Math.max.name, Cond.static Lib.Math.max.name, Cond.code Lib.Math.max.name Lib.Math.max.code 2 (some .int), Cond.fieldLink RX4 15 "FormatDump$Figures" "size" "I", Cond.fieldLink RX4 19 "FormatDump$Figures" "large" "Z", Cond.fieldLink RX4 9 "FormatDump$Figures" "lowestFirst" "[I", Cond.methodLink RX8 161 yX4_writeTo, Cond.instanceMethod yX4_writeTo, Cond.selects RX4 yX4_writeTo yX4_writeTo, Cond.code yX4_writeTo cX4_writeTo 4 none, Cond.methodLink RX4 29 yX4_characterOf, Cond.instanceMethod yX4_characterOf, Cond.selects RX4 yX4_characterOf yX4_characterOf, Cond.code yX4_characterOf cX4_characterOf 2 (some .int)]
def wsX8_printOnce_r11 : List Cond := [Cond.methodLink RX4 33 yX9_add, Cond.methodLink RX8 128 yX8_keepPrecision, Cond.instanceMethod yX8_keepPrecision, Cond.selects RX8 yX8_keepPrecision yX8_keepPrecision, Cond.code yX8_keepPrecision cX8_keepPrecision 1 none, Cond.fieldLink RX8 168 "FormatDump$Directive" "precision" "I", Cond.methodLink RX8 171 yX9_keepFirst, Cond.instanceMethod yX9_keepFirst, Cond.selects RX9 yX9_keepFirst yX9_keepFirst, Cond.code yX9_keepFirst cX9_keepFirst 4 (some .int), Cond.methodLink RX9 26 Lib.Math.min.name, Cond.static Lib.Math.min.name, Cond.code Lib.Math.min.name Lib.Math.min.code 2 (some .int), Cond.methodLink RX9 32 Lib.Math.max.name, Cond.methodLink RX8 131 yX8_unescapePiece, Cond.instanceMethod yX8_unescapePiece, Cond.selects RX8 yX8_unescapePiece yX8_unescapePiece, Cond.code yX8_unescapePiece cX8_unescapePiece 4 none, Cond.fieldLink RX8 45 "FormatDump$Printer" "raw" "LFormatDump$Row;", Cond.methodLink RX8 165 yX3_readInText, Cond.instanceMethod yX3_readInText, Cond.selects RX3 yX3_readInText yX3_readInText, Cond.code yX3_readInText cX3_readInText 3 (some .boolean), Cond.methodLink RX8 134 yX8_printNumber]
def wsX8_printOnce_r12 : List Cond := [Cond.instanceMethod yX8_printNumber, Cond.selects RX8 yX8_printNumber yX8_printNumber, Cond.code yX8_printNumber cX8_printNumber 12 none, Cond.fieldLink RX8 198 "FormatDump$Directive" "flagMark" "Z", Cond.methodLink RX8 184 yX8_narrowed, Cond.instanceMethod yX8_narrowed, Cond.selects RX8 yX8_narrowed yX8_narrowed, Cond.code yX8_narrowed cX8_narrowed 6 (some .long), Cond.fieldLink RX8 211 "FormatDump$Directive" "bits" "I", Cond.methodLink RX8 188 yX2_isSigned, Cond.instanceMethod yX2_isSigned, Cond.selects RX2 yX2_isSigned yX2_isSigned, Cond.code yX2_isSigned cX2_isSigned 1 (some .boolean), Cond.methodLink RX8 192 yX2_base, Cond.instanceMethod yX2_base, Cond.selects RX2 yX2_base yX2_base, Cond.code yX2_base cX2_base 1 (some .int), Cond.methodLink RX2 44 yX2_isHexadecimal, Cond.instanceMethod yX2_isHexadecimal, Cond.selects RX2 yX2_isHexadecimal yX2_isHexadecimal, Cond.code yX2_isHexadecimal cX2_isHexadecimal 1 (some .boolean), Cond.methodLink RX8 195 yX8_digitsDue, Cond.instanceMethod yX8_digitsDue, Cond.selects RX8 yX8_digitsDue yX8_digitsDue]
def wsX8_printOnce_r13 : List Cond := [Cond.code yX8_digitsDue cX8_digitsDue 3 (some .int), Cond.methodLink RX8 215 Lib.Math.max.name, Cond.methodLink RX8 214 yX4_size, Cond.instanceMethod yX4_size, Cond.selects RX4 yX4_size yX4_size, Cond.code yX4_size cX4_size 1 (some .int), Cond.methodLink RX8 201 yX2_isHexadecimal, Cond.methodLink RX8 204 yX8_signOf, Cond.instanceMethod yX8_signOf, Cond.selects RX8 yX8_signOf yX8_signOf, Cond.code yX8_signOf cX8_signOf 2 (some .int), Cond.fieldLink RX8 221 "FormatDump$Directive" "flagPlus" "Z", Cond.fieldLink RX8 224 "FormatDump$Directive" "flagBlank" "Z", Cond.methodLink RX8 208 yX2_fillsWithZeros, Cond.instanceMethod yX2_fillsWithZeros, Cond.selects RX2 yX2_fillsWithZeros yX2_fillsWithZeros, Cond.code yX2_fillsWithZeros cX2_fillsWithZeros 1 (some .boolean)]
def wsX8_printOnce : List Cond := .code yX8_printOnce cX8_printOnce 6 none :: ((wsX8_printOnce_r1 ++ (wsX8_printOnce_r2 ++ (wsX8_printOnce_r3 ++ (wsX8_printOnce_r4 ++ (wsX8_printOnce_r5 ++ (wsX8_printOnce_r6 ++ (wsX8_printOnce_r7 ++ (wsX8_printOnce_r8 ++ (wsX8_printOnce_r9 ++ (wsX8_printOnce_r10 ++ (wsX8_printOnce_r11 ++ (wsX8_printOnce_r12 ++ wsX8_printOnce_r13)))))))))))) ++ wsX80 ++ wsX90 ++ wsX20 ++ wsX30 ++ wsX00 ++ wsX10 ++ wsX50 ++ wsX40)
def wsX9_isOver : List Cond := .code yX9_isOver cX9_isOver 1 (some .boolean) :: ([.fieldLink RX9 22 "FormatDump$Row" "over" "Z"] ++ wsX90)
def wsX9_limitTo : List Cond := .code yX9_limitTo cX9_limitTo 2 none :: ([.fieldLink RX9 9 "FormatDump$Row" "cells" "[I", .methodLink RX9 26 Lib.Math.min.name, .static Lib.Math.min.name, .initialized "java/lang/Math", .code Lib.Math.min.name Lib.Math.min.code 2 (some .int), .methodLink RX9 32 Lib.Math.max.name, .static Lib.Math.max.name, .code Lib.Math.max.name Lib.Math.max.code 2 (some .int), .fieldLink RX9 15 "FormatDump$Row" "limit" "I"] ++ wsX90)
def wsX9_change : List Cond := .code yX9_change cX9_change 3 none :: ([.fieldLink RX9 19 "FormatDump$Row" "size" "I", .fieldLink RX9 9 "FormatDump$Row" "cells" "[I"] ++ wsX90)
def wsX10_init : List Cond := .code yX10_init cX10_init 4 none :: ([.methodLink RX10 3 objectInit, .instanceMethod objectInit, .code objectInit ⟨#[0xb1]⟩ 1 none, .fieldLink RX10 9 "FormatDump$WordDump" "page" "LFormatDump$Row;", .fieldLink RX10 15 "FormatDump$WordDump" "bytes" "LFormatDump$Row;", .fieldLink RX10 18 "FormatDump$WordDump" "figures" "LFormatDump$Figures;", .classLink RX10 22 RX9, .instantiable RX9 4, .initialized RX9, .fieldLink RX10 27 "FormatDump$WordDump" "field" "LFormatDump$Row;", .fieldLink RX10 30 "FormatDump$WordDump" "addressBase" "I", .fieldLink RX10 34 "FormatDump$WordDump" "letter" "C", .fieldLink RX10 38 "FormatDump$WordDump" "wordSize" "I", .methodLink RX10 24 yX9_init, .instanceMethod yX9_init, .code yX9_init cX9_init 2 none, .methodLink RX9 3 objectInit, .arrayClass .int, .fieldLink RX9 9 "FormatDump$Row" "cells" "[I", .fieldLink RX9 15 "FormatDump$Row" "limit" "I", .fieldLink RX9 19 "FormatDump$Row" "size" "I", .fieldLink RX9 22 "FormatDump$Row" "over" "Z"] ++ wsX100 ++ wsX90)
def wsX10_isLikeBefore : List Cond := .code yX10_isLikeBefore cX10_isLikeBefore 3 (some .boolean) :: ([.fieldLink RX10 15 "FormatDump$WordDump" "bytes" "LFormatDump$Row;", .methodLink RX10 41 yX9_size, .instanceMethod yX9_size, .selects RX9 yX9_size yX9_size, .initialized RX9, .code yX9_size cX9_size 1 (some .int), .fieldLink RX9 19 "FormatDump$Row" "size" "I", .methodLink RX10 58 yX9_at, .instanceMethod yX9_at, .selects RX9 yX9_at yX9_at, .code yX9_at cX9_at 2 (some .int), .fieldLink RX9 9 "FormatDump$Row" "cells" "[I"] ++ wsX100 ++ wsX90)
def wsX10_writeAddress_r1 : List Cond := [Cond.fieldLink RX10 18 "FormatDump$WordDump" "figures" "LFormatDump$Figures;", Cond.fieldLink RX10 30 "FormatDump$WordDump" "addressBase" "I", Cond.fieldLink RX10 9 "FormatDump$WordDump" "page" "LFormatDump$Row;", Cond.methodLink RX10 79 yX4_take, Cond.instanceMethod yX4_take, Cond.selects RX4 yX4_take yX4_take, Cond.initialized RX4, Cond.code yX4_take cX4_take 11 none, Cond.methodLink RX4 23 Lib.Math.max.name, Cond.static Lib.Math.max.name, Cond.initialized "java/lang/Math", Cond.code Lib.Math.max.name Lib.Math.max.code 2 (some .int), Cond.fieldLink RX4 15 "FormatDump$Figures" "size" "I", Cond.fieldLink RX4 19 "FormatDump$Figures" "large" "Z", Cond.fieldLink RX4 9 "FormatDump$Figures" "lowestFirst" "[I", Cond.methodLink RX10 85 yX4_writeTo, Cond.instanceMethod yX4_writeTo, Cond.selects RX4 yX4_writeTo yX4_writeTo, Cond.code yX4_writeTo cX4_writeTo 4 none, Cond.methodLink RX4 29 yX4_characterOf, Cond.instanceMethod yX4_characterOf, Cond.selects RX4 yX4_characterOf yX4_characterOf, Cond.code yX4_characterOf cX4_characterOf 2 (some .int), Cond.methodLink RX4 33 yX9_add]
def wsX10_writeAddress_r2 : List Cond := [Cond.instanceMethod yX9_add, Cond.selects RX9 yX9_add yX9_add, Cond.initialized RX9, Cond.code yX9_add cX9_add 2 none, Cond.fieldLink RX9 19 "FormatDump$Row" "size" "I", Cond.fieldLink RX9 15 "FormatDump$Row" "limit" "I", Cond.fieldLink RX9 9 "FormatDump$Row" "cells" "[I", Cond.fieldLink RX9 22 "FormatDump$Row" "over" "Z"]
def wsX10_writeAddress : List Cond := .code yX10_writeAddress cX10_writeAddress 2 none :: ((wsX10_writeAddress_r1 ++ wsX10_writeAddress_r2) ++ wsX100 ++ wsX40 ++ wsX90)
def wsX10_wordAt : List Cond := .code yX10_wordAt cX10_wordAt 6 (some .long) :: ([.fieldLink RX10 38 "FormatDump$WordDump" "wordSize" "I", .fieldLink RX10 15 "FormatDump$WordDump" "bytes" "LFormatDump$Row;", .methodLink RX10 41 yX9_size, .instanceMethod yX9_size, .selects RX9 yX9_size yX9_size, .initialized RX9, .code yX9_size cX9_size 1 (some .int), .fieldLink RX9 19 "FormatDump$Row" "size" "I", .methodLink RX10 58 yX9_at, .instanceMethod yX9_at, .selects RX9 yX9_at yX9_at, .code yX9_at cX9_at 2 (some .int), .fieldLink RX9 9 "FormatDump$Row" "cells" "[I"] ++ wsX100 ++ wsX90)
def wsX10_nameOf : List Cond := .code yX10_nameOf cX10_nameOf 1 (some .int) :: ([])
def wsX10_loadCharacter_r1 : List Cond := [Cond.fieldLink RX10 27 "FormatDump$WordDump" "field" "LFormatDump$Row;", Cond.fieldLink RX10 18 "FormatDump$WordDump" "figures" "LFormatDump$Figures;", Cond.methodLink RX10 111 yX10_nameOf, Cond.static yX10_nameOf, Cond.initialized RX10, Cond.code yX10_nameOf cX10_nameOf 1 (some .int), Cond.static yX11_canBeSeen, Cond.initialized RX11, Cond.code yX11_canBeSeen cX11_canBeSeen 1 (some .boolean), Cond.methodLink RX10 52 yX9_add, Cond.instanceMethod yX9_add, Cond.selects RX9 yX9_add yX9_add, Cond.initialized RX9, Cond.code yX9_add cX9_add 2 none, Cond.fieldLink RX9 19 "FormatDump$Row" "size" "I", Cond.fieldLink RX9 15 "FormatDump$Row" "limit" "I", Cond.fieldLink RX9 9 "FormatDump$Row" "cells" "[I", Cond.fieldLink RX9 22 "FormatDump$Row" "over" "Z", Cond.methodLink RX10 79 yX4_take, Cond.instanceMethod yX4_take, Cond.selects RX4 yX4_take yX4_take, Cond.initialized RX4, Cond.code yX4_take cX4_take 11 none, Cond.methodLink RX4 23 Lib.Math.max.name]
def wsX10_loadCharacter_r2 : List Cond := [Cond.static Lib.Math.max.name, Cond.initialized "java/lang/Math", Cond.code Lib.Math.max.name Lib.Math.max.code 2 (some .int), Cond.fieldLink RX4 15 "FormatDump$Figures" "size" "I", Cond.fieldLink RX4 19 "FormatDump$Figures" "large" "Z", Cond.fieldLink RX4 9 "FormatDump$Figures" "lowestFirst" "[I", Cond.methodLink RX10 85 yX4_writeTo, Cond.instanceMethod yX4_writeTo, Cond.selects RX4 yX4_writeTo yX4_writeTo, Cond.code yX4_writeTo cX4_writeTo 4 none, Cond.methodLink RX4 29 yX4_characterOf, Cond.instanceMethod yX4_characterOf, Cond.selects RX4 yX4_characterOf yX4_characterOf, Cond.code yX4_characterOf cX4_characterOf 2 (some .int), Cond.methodLink RX4 33 yX9_add]
def wsX10_loadCharacter : List Cond := .code yX10_loadCharacter cX10_loadCharacter 3 none :: ((wsX10_loadCharacter_r1 ++ wsX10_loadCharacter_r2) ++ wsX100 ++ wsX90 ++ wsX40)
def wsX10_fieldBase : List Cond := .code yX10_fieldBase cX10_fieldBase 1 (some .int) :: ([.fieldLink RX10 34 "FormatDump$WordDump" "letter" "C"] ++ wsX100)
def wsX10_leastDigits : List Cond := .code yX10_leastDigits cX10_leastDigits 1 (some .int) :: ([.fieldLink RX10 34 "FormatDump$WordDump" "letter" "C", .fieldLink RX10 38 "FormatDump$WordDump" "wordSize" "I"] ++ wsX100)
def wsX10_loadNumber_r1 : List Cond := [Cond.fieldLink RX10 38 "FormatDump$WordDump" "wordSize" "I", Cond.fieldLink RX10 34 "FormatDump$WordDump" "letter" "C", Cond.fieldLink RX10 27 "FormatDump$WordDump" "field" "LFormatDump$Row;", Cond.fieldLink RX10 18 "FormatDump$WordDump" "figures" "LFormatDump$Figures;", Cond.methodLink RX10 52 yX9_add, Cond.instanceMethod yX9_add, Cond.selects RX9 yX9_add yX9_add, Cond.initialized RX9, Cond.code yX9_add cX9_add 2 none, Cond.fieldLink RX9 19 "FormatDump$Row" "size" "I", Cond.fieldLink RX9 15 "FormatDump$Row" "limit" "I", Cond.fieldLink RX9 9 "FormatDump$Row" "cells" "[I", Cond.fieldLink RX9 22 "FormatDump$Row" "over" "Z", Cond.methodLink RX10 79 yX4_take, Cond.instanceMethod yX4_take, Cond.selects RX4 yX4_take yX4_take, Cond.initialized RX4, Cond.code yX4_take cX4_take 11 none, Cond.methodLink RX4 23 Lib.Math.max.name, Cond.static Lib.Math.max.name, Cond.initialized "java/lang/Math", Cond.code Lib.Math.max.name Lib.Math.max.code 2 (some .int), Cond.fieldLink RX4 15 "FormatDump$Figures" "size" "I", Cond.fieldLink RX4 19 "FormatDump$Figures" "large" "Z"]
def wsX10_loadNumber_r2 : List Cond := [Cond.fieldLink RX4 9 "FormatDump$Figures" "lowestFirst" "[I", Cond.methodLink RX10 105 yX10_fieldBase, Cond.instanceMethod yX10_fieldBase, Cond.selects RX10 yX10_fieldBase yX10_fieldBase, Cond.initialized RX10, Cond.code yX10_fieldBase cX10_fieldBase 1 (some .int), Cond.methodLink RX10 108 yX10_leastDigits, Cond.instanceMethod yX10_leastDigits, Cond.selects RX10 yX10_leastDigits yX10_leastDigits, Cond.code yX10_leastDigits cX10_leastDigits 1 (some .int), Cond.methodLink RX10 85 yX4_writeTo, Cond.instanceMethod yX4_writeTo, Cond.selects RX4 yX4_writeTo yX4_writeTo, Cond.code yX4_writeTo cX4_writeTo 4 none, Cond.methodLink RX4 29 yX4_characterOf, Cond.instanceMethod yX4_characterOf, Cond.selects RX4 yX4_characterOf yX4_characterOf, Cond.code yX4_characterOf cX4_characterOf 2 (some .int), Cond.methodLink RX4 33 yX9_add]
def wsX10_loadNumber : List Cond := .code yX10_loadNumber cX10_loadNumber 5 none :: ((wsX10_loadNumber_r1 ++ wsX10_loadNumber_r2) ++ wsX100 ++ wsX90 ++ wsX40)
def wsX10_decimalWidth : List Cond := .code yX10_decimalWidth cX10_decimalWidth 1 (some .int) :: ([.fieldLink RX10 38 "FormatDump$WordDump" "wordSize" "I"] ++ wsX100)
def wsX10_fieldWidth : List Cond := .code yX10_fieldWidth cX10_fieldWidth 1 (some .int) :: ([.fieldLink RX10 34 "FormatDump$WordDump" "letter" "C", .fieldLink RX10 38 "FormatDump$WordDump" "wordSize" "I", .methodLink RX10 117 yX10_decimalWidth, .instanceMethod yX10_decimalWidth, .selects RX10 yX10_decimalWidth yX10_decimalWidth, .initialized RX10, .code yX10_decimalWidth cX10_decimalWidth 1 (some .int)] ++ wsX100)
def wsX10_writeField_r1 : List Cond := [Cond.fieldLink RX10 27 "FormatDump$WordDump" "field" "LFormatDump$Row;", Cond.fieldLink RX10 34 "FormatDump$WordDump" "letter" "C", Cond.fieldLink RX10 9 "FormatDump$WordDump" "page" "LFormatDump$Row;", Cond.methodLink RX10 89 yX9_clear, Cond.instanceMethod yX9_clear, Cond.selects RX9 yX9_clear yX9_clear, Cond.initialized RX9, Cond.code yX9_clear cX9_clear 1 none, Cond.fieldLink RX9 19 "FormatDump$Row" "size" "I", Cond.fieldLink RX9 22 "FormatDump$Row" "over" "Z", Cond.methodLink RX10 92 yX10_loadCharacter, Cond.instanceMethod yX10_loadCharacter, Cond.selects RX10 yX10_loadCharacter yX10_loadCharacter, Cond.initialized RX10, Cond.code yX10_loadCharacter cX10_loadCharacter 3 none, Cond.fieldLink RX10 18 "FormatDump$WordDump" "figures" "LFormatDump$Figures;", Cond.methodLink RX10 111 yX10_nameOf, Cond.static yX10_nameOf, Cond.code yX10_nameOf cX10_nameOf 1 (some .int), Cond.static yX11_canBeSeen, Cond.initialized RX11, Cond.code yX11_canBeSeen cX11_canBeSeen 1 (some .boolean), Cond.methodLink RX10 52 yX9_add, Cond.instanceMethod yX9_add]
def wsX10_writeField_r2 : List Cond := [Cond.selects RX9 yX9_add yX9_add, Cond.code yX9_add cX9_add 2 none, Cond.fieldLink RX9 15 "FormatDump$Row" "limit" "I", Cond.fieldLink RX9 9 "FormatDump$Row" "cells" "[I", Cond.methodLink RX10 79 yX4_take, Cond.instanceMethod yX4_take, Cond.selects RX4 yX4_take yX4_take, Cond.initialized RX4, Cond.code yX4_take cX4_take 11 none, Cond.methodLink RX4 23 Lib.Math.max.name, Cond.static Lib.Math.max.name, Cond.initialized "java/lang/Math", Cond.code Lib.Math.max.name Lib.Math.max.code 2 (some .int), Cond.fieldLink RX4 15 "FormatDump$Figures" "size" "I", Cond.fieldLink RX4 19 "FormatDump$Figures" "large" "Z", Cond.fieldLink RX4 9 "FormatDump$Figures" "lowestFirst" "[I", Cond.methodLink RX10 85 yX4_writeTo, Cond.instanceMethod yX4_writeTo, Cond.selects RX4 yX4_writeTo yX4_writeTo, Cond.code yX4_writeTo cX4_writeTo 4 none, Cond.methodLink RX4 29 yX4_characterOf, Cond.instanceMethod yX4_characterOf, Cond.selects RX4 yX4_characterOf yX4_characterOf, Cond.code yX4_characterOf cX4_characterOf 2 (some .int)]
def wsX10_writeField_r3 : List Cond := [Cond.methodLink RX4 33 yX9_add, Cond.methodLink RX10 95 yX10_loadNumber, Cond.instanceMethod yX10_loadNumber, Cond.selects RX10 yX10_loadNumber yX10_loadNumber, Cond.code yX10_loadNumber cX10_loadNumber 5 none, Cond.fieldLink RX10 38 "FormatDump$WordDump" "wordSize" "I", Cond.methodLink RX10 105 yX10_fieldBase, Cond.instanceMethod yX10_fieldBase, Cond.selects RX10 yX10_fieldBase yX10_fieldBase, Cond.code yX10_fieldBase cX10_fieldBase 1 (some .int), Cond.methodLink RX10 108 yX10_leastDigits, Cond.instanceMethod yX10_leastDigits, Cond.selects RX10 yX10_leastDigits yX10_leastDigits, Cond.code yX10_leastDigits cX10_leastDigits 1 (some .int), Cond.methodLink RX10 98 yX10_fieldWidth, Cond.instanceMethod yX10_fieldWidth, Cond.selects RX10 yX10_fieldWidth yX10_fieldWidth, Cond.code yX10_fieldWidth cX10_fieldWidth 1 (some .int), Cond.methodLink RX10 117 yX10_decimalWidth, Cond.instanceMethod yX10_decimalWidth, Cond.selects RX10 yX10_decimalWidth yX10_decimalWidth, Cond.code yX10_decimalWidth cX10_decimalWidth 1 (some .int), Cond.methodLink RX10 41 yX9_size, Cond.instanceMethod yX9_size]
def wsX10_writeField_r4 : List Cond := [Cond.selects RX9 yX9_size yX9_size, Cond.code yX9_size cX9_size 1 (some .int), Cond.methodLink RX10 101 yX9_addMany, Cond.instanceMethod yX9_addMany, Cond.selects RX9 yX9_addMany yX9_addMany, Cond.code yX9_addMany cX9_addMany 4 none, Cond.methodLink RX9 35 yX9_add, Cond.methodLink RX10 58 yX9_at, Cond.instanceMethod yX9_at, Cond.selects RX9 yX9_at yX9_at, Cond.code yX9_at cX9_at 2 (some .int)]
def wsX10_writeField : List Cond := .code yX10_writeField cX10_writeField 4 none :: ((wsX10_writeField_r1 ++ (wsX10_writeField_r2 ++ (wsX10_writeField_r3 ++ wsX10_writeField_r4))) ++ wsX100 ++ wsX90 ++ wsX40)
def wsX10_writeLine_r1 : List Cond := [Cond.fieldLink RX10 15 "FormatDump$WordDump" "bytes" "LFormatDump$Row;", Cond.methodLink RX10 62 Lib.Math.min.name, Cond.static Lib.Math.min.name, Cond.initialized "java/lang/Math", Cond.code Lib.Math.min.name Lib.Math.min.code 2 (some .int), Cond.fieldLink RX10 38 "FormatDump$WordDump" "wordSize" "I", Cond.methodLink RX10 68 Lib.Math.max.name, Cond.static Lib.Math.max.name, Cond.code Lib.Math.max.name Lib.Math.max.code 2 (some .int), Cond.fieldLink RX10 30 "FormatDump$WordDump" "addressBase" "I", Cond.fieldLink RX10 9 "FormatDump$WordDump" "page" "LFormatDump$Row;", Cond.methodLink RX10 41 yX9_size, Cond.instanceMethod yX9_size, Cond.selects RX9 yX9_size yX9_size, Cond.initialized RX9, Cond.code yX9_size cX9_size 1 (some .int), Cond.fieldLink RX9 19 "FormatDump$Row" "size" "I", Cond.methodLink RX10 55 yX10_writeAddress, Cond.instanceMethod yX10_writeAddress, Cond.selects RX10 yX10_writeAddress yX10_writeAddress, Cond.initialized RX10, Cond.code yX10_writeAddress cX10_writeAddress 2 none, Cond.fieldLink RX10 18 "FormatDump$WordDump" "figures" "LFormatDump$Figures;", Cond.methodLink RX10 79 yX4_take]
def wsX10_writeLine_r2 : List Cond := [Cond.instanceMethod yX4_take, Cond.selects RX4 yX4_take yX4_take, Cond.initialized RX4, Cond.code yX4_take cX4_take 11 none, Cond.methodLink RX4 23 Lib.Math.max.name, Cond.fieldLink RX4 15 "FormatDump$Figures" "size" "I", Cond.fieldLink RX4 19 "FormatDump$Figures" "large" "Z", Cond.fieldLink RX4 9 "FormatDump$Figures" "lowestFirst" "[I", Cond.methodLink RX10 85 yX4_writeTo, Cond.instanceMethod yX4_writeTo, Cond.selects RX4 yX4_writeTo yX4_writeTo, Cond.code yX4_writeTo cX4_writeTo 4 none, Cond.methodLink RX4 29 yX4_characterOf, Cond.instanceMethod yX4_characterOf, Cond.selects RX4 yX4_characterOf yX4_characterOf, Cond.code yX4_characterOf cX4_characterOf 2 (some .int), Cond.methodLink RX4 33 yX9_add, Cond.instanceMethod yX9_add, Cond.selects RX9 yX9_add yX9_add, Cond.code yX9_add cX9_add 2 none, Cond.fieldLink RX9 15 "FormatDump$Row" "limit" "I", Cond.fieldLink RX9 9 "FormatDump$Row" "cells" "[I", Cond.fieldLink RX9 22 "FormatDump$Row" "over" "Z", Cond.methodLink RX10 52 yX9_add]
def wsX10_writeLine_r3 : List Cond := [Cond.methodLink RX10 71 yX10_wordAt, Cond.instanceMethod yX10_wordAt, Cond.selects RX10 yX10_wordAt yX10_wordAt, Cond.code yX10_wordAt cX10_wordAt 6 (some .long), Cond.methodLink RX10 58 yX9_at, Cond.instanceMethod yX9_at, Cond.selects RX9 yX9_at yX9_at, Cond.code yX9_at cX9_at 2 (some .int), Cond.methodLink RX10 75 yX10_writeField, Cond.instanceMethod yX10_writeField, Cond.selects RX10 yX10_writeField yX10_writeField, Cond.code yX10_writeField cX10_writeField 4 none, Cond.fieldLink RX10 27 "FormatDump$WordDump" "field" "LFormatDump$Row;", Cond.fieldLink RX10 34 "FormatDump$WordDump" "letter" "C", Cond.methodLink RX10 89 yX9_clear, Cond.instanceMethod yX9_clear, Cond.selects RX9 yX9_clear yX9_clear, Cond.code yX9_clear cX9_clear 1 none, Cond.methodLink RX10 92 yX10_loadCharacter, Cond.instanceMethod yX10_loadCharacter, Cond.selects RX10 yX10_loadCharacter yX10_loadCharacter, Cond.code yX10_loadCharacter cX10_loadCharacter 3 none, Cond.methodLink RX10 111 yX10_nameOf, Cond.static yX10_nameOf]
def wsX10_writeLine_r4 : List Cond := [Cond.code yX10_nameOf cX10_nameOf 1 (some .int), Cond.static yX11_canBeSeen, Cond.initialized RX11, Cond.code yX11_canBeSeen cX11_canBeSeen 1 (some .boolean), Cond.methodLink RX10 95 yX10_loadNumber, Cond.instanceMethod yX10_loadNumber, Cond.selects RX10 yX10_loadNumber yX10_loadNumber, Cond.code yX10_loadNumber cX10_loadNumber 5 none, Cond.methodLink RX10 105 yX10_fieldBase, Cond.instanceMethod yX10_fieldBase, Cond.selects RX10 yX10_fieldBase yX10_fieldBase, Cond.code yX10_fieldBase cX10_fieldBase 1 (some .int), Cond.methodLink RX10 108 yX10_leastDigits, Cond.instanceMethod yX10_leastDigits, Cond.selects RX10 yX10_leastDigits yX10_leastDigits, Cond.code yX10_leastDigits cX10_leastDigits 1 (some .int), Cond.methodLink RX10 98 yX10_fieldWidth, Cond.instanceMethod yX10_fieldWidth, Cond.selects RX10 yX10_fieldWidth yX10_fieldWidth, Cond.code yX10_fieldWidth cX10_fieldWidth 1 (some .int), Cond.methodLink RX10 117 yX10_decimalWidth, Cond.instanceMethod yX10_decimalWidth, Cond.selects RX10 yX10_decimalWidth yX10_decimalWidth, Cond.code yX10_decimalWidth cX10_decimalWidth 1 (some .int)]
def wsX10_writeLine_r5 : List Cond := [Cond.methodLink RX10 101 yX9_addMany, Cond.instanceMethod yX9_addMany, Cond.selects RX9 yX9_addMany yX9_addMany, Cond.code yX9_addMany cX9_addMany 4 none, Cond.methodLink RX9 35 yX9_add]
def wsX10_writeLine : List Cond := .code yX10_writeLine cX10_writeLine 5 none :: ((wsX10_writeLine_r1 ++ (wsX10_writeLine_r2 ++ (wsX10_writeLine_r3 ++ (wsX10_writeLine_r4 ++ wsX10_writeLine_r5)))) ++ wsX100 ++ wsX90 ++ wsX40)
def wsX10_dump_r1 : List Cond := [Cond.fieldLink RX10 30 "FormatDump$WordDump" "addressBase" "I", Cond.fieldLink RX10 34 "FormatDump$WordDump" "letter" "C", Cond.fieldLink RX10 38 "FormatDump$WordDump" "wordSize" "I", Cond.fieldLink RX10 15 "FormatDump$WordDump" "bytes" "LFormatDump$Row;", Cond.fieldLink RX10 9 "FormatDump$WordDump" "page" "LFormatDump$Row;", Cond.methodLink RX10 41 yX9_size, Cond.instanceMethod yX9_size, Cond.selects RX9 yX9_size yX9_size, Cond.initialized RX9, Cond.code yX9_size cX9_size 1 (some .int), Cond.fieldLink RX9 19 "FormatDump$Row" "size" "I", Cond.methodLink RX10 45 yX10_isLikeBefore, Cond.instanceMethod yX10_isLikeBefore, Cond.selects RX10 yX10_isLikeBefore yX10_isLikeBefore, Cond.initialized RX10, Cond.code yX10_isLikeBefore cX10_isLikeBefore 3 (some .boolean), Cond.methodLink RX10 58 yX9_at, Cond.instanceMethod yX9_at, Cond.selects RX9 yX9_at yX9_at, Cond.code yX9_at cX9_at 2 (some .int), Cond.fieldLink RX9 9 "FormatDump$Row" "cells" "[I", Cond.methodLink RX10 49 yX10_writeLine, Cond.instanceMethod yX10_writeLine, Cond.selects RX10 yX10_writeLine yX10_writeLine]
def wsX10_dump_r2 : List Cond := [Cond.code yX10_writeLine cX10_writeLine 5 none, Cond.methodLink RX10 62 Lib.Math.min.name, Cond.static Lib.Math.min.name, Cond.initialized "java/lang/Math", Cond.code Lib.Math.min.name Lib.Math.min.code 2 (some .int), Cond.methodLink RX10 68 Lib.Math.max.name, Cond.static Lib.Math.max.name, Cond.code Lib.Math.max.name Lib.Math.max.code 2 (some .int), Cond.methodLink RX10 55 yX10_writeAddress, Cond.instanceMethod yX10_writeAddress, Cond.selects RX10 yX10_writeAddress yX10_writeAddress, Cond.code yX10_writeAddress cX10_writeAddress 2 none, Cond.fieldLink RX10 18 "FormatDump$WordDump" "figures" "LFormatDump$Figures;", Cond.methodLink RX10 79 yX4_take, Cond.instanceMethod yX4_take, Cond.selects RX4 yX4_take yX4_take, Cond.initialized RX4, Cond.code yX4_take cX4_take 11 none, Cond.methodLink RX4 23 Lib.Math.max.name, Cond.fieldLink RX4 15 "FormatDump$Figures" "size" "I", Cond.fieldLink RX4 19 "FormatDump$Figures" "large" "Z", Cond.fieldLink RX4 9 "FormatDump$Figures" "lowestFirst" "[I", Cond.methodLink RX10 85 yX4_writeTo, Cond.instanceMethod yX4_writeTo]
def wsX10_dump_r3 : List Cond := [Cond.selects RX4 yX4_writeTo yX4_writeTo, Cond.code yX4_writeTo cX4_writeTo 4 none, Cond.methodLink RX4 29 yX4_characterOf, Cond.instanceMethod yX4_characterOf, Cond.selects RX4 yX4_characterOf yX4_characterOf, Cond.code yX4_characterOf cX4_characterOf 2 (some .int), Cond.methodLink RX4 33 yX9_add, Cond.instanceMethod yX9_add, Cond.selects RX9 yX9_add yX9_add, Cond.code yX9_add cX9_add 2 none, Cond.fieldLink RX9 15 "FormatDump$Row" "limit" "I", Cond.fieldLink RX9 22 "FormatDump$Row" "over" "Z", Cond.methodLink RX10 52 yX9_add, Cond.methodLink RX10 71 yX10_wordAt, Cond.instanceMethod yX10_wordAt, Cond.selects RX10 yX10_wordAt yX10_wordAt, Cond.code yX10_wordAt cX10_wordAt 6 (some .long), Cond.methodLink RX10 75 yX10_writeField, Cond.instanceMethod yX10_writeField, Cond.selects RX10 yX10_writeField yX10_writeField, Cond.code yX10_writeField cX10_writeField 4 none, Cond.fieldLink RX10 27 "FormatDump$WordDump" "field" "LFormatDump$Row;", Cond.methodLink RX10 89 yX9_clear, Cond.instanceMethod yX9_clear]
def wsX10_dump_r4 : List Cond := [Cond.selects RX9 yX9_clear yX9_clear, Cond.code yX9_clear cX9_clear 1 none, Cond.methodLink RX10 92 yX10_loadCharacter, Cond.instanceMethod yX10_loadCharacter, Cond.selects RX10 yX10_loadCharacter yX10_loadCharacter, Cond.code yX10_loadCharacter cX10_loadCharacter 3 none, Cond.methodLink RX10 111 yX10_nameOf, Cond.static yX10_nameOf, Cond.code yX10_nameOf cX10_nameOf 1 (some .int), Cond.static yX11_canBeSeen, Cond.initialized RX11, Cond.code yX11_canBeSeen cX11_canBeSeen 1 (some .boolean), Cond.methodLink RX10 95 yX10_loadNumber, Cond.instanceMethod yX10_loadNumber, Cond.selects RX10 yX10_loadNumber yX10_loadNumber, Cond.code yX10_loadNumber cX10_loadNumber 5 none, Cond.methodLink RX10 105 yX10_fieldBase, Cond.instanceMethod yX10_fieldBase, Cond.selects RX10 yX10_fieldBase yX10_fieldBase, Cond.code yX10_fieldBase cX10_fieldBase 1 (some .int), Cond.methodLink RX10 108 yX10_leastDigits, Cond.instanceMethod yX10_leastDigits, Cond.selects RX10 yX10_leastDigits yX10_leastDigits, Cond.code yX10_leastDigits cX10_leastDigits 1 (some .int)]
def wsX10_dump_r5 : List Cond := [Cond.methodLink RX10 98 yX10_fieldWidth, Cond.instanceMethod yX10_fieldWidth, Cond.selects RX10 yX10_fieldWidth yX10_fieldWidth, Cond.code yX10_fieldWidth cX10_fieldWidth 1 (some .int), Cond.methodLink RX10 117 yX10_decimalWidth, Cond.instanceMethod yX10_decimalWidth, Cond.selects RX10 yX10_decimalWidth yX10_decimalWidth, Cond.code yX10_decimalWidth cX10_decimalWidth 1 (some .int), Cond.methodLink RX10 101 yX9_addMany, Cond.instanceMethod yX9_addMany, Cond.selects RX9 yX9_addMany yX9_addMany, Cond.code yX9_addMany cX9_addMany 4 none, Cond.methodLink RX9 35 yX9_add]
def wsX10_dump : List Cond := .code yX10_dump cX10_dump 7 none :: ((wsX10_dump_r1 ++ (wsX10_dump_r2 ++ (wsX10_dump_r3 ++ (wsX10_dump_r4 ++ wsX10_dump_r5)))) ++ wsX100 ++ wsX90 ++ wsX40)
def wsX11_init_r1 : List Cond := [Cond.methodLink RX11 1 objectInit, Cond.instanceMethod objectInit, Cond.code objectInit ⟨#[0xb1]⟩ 1 none, Cond.classLink RX11 7 RX4, Cond.instantiable RX4 3, Cond.initialized RX4, Cond.classLink RX11 10 RX9, Cond.instantiable RX9 4, Cond.initialized RX9, Cond.fieldLink RX11 17 "FormatDump" "line" "LFormatDump$Row;", Cond.fieldLink RX11 21 "FormatDump" "page" "LFormatDump$Row;", Cond.fieldLink RX11 24 "FormatDump" "bytes" "LFormatDump$Row;", Cond.classLink RX11 27 RX1, Cond.instantiable RX1 5, Cond.initialized RX1, Cond.fieldLink RX11 30 "FormatDump" "arguments" "LFormatDump$Arguments;", Cond.classLink RX11 34 RX8, Cond.instantiable RX8 8, Cond.initialized RX8, Cond.fieldLink RX11 39 "FormatDump" "printer" "LFormatDump$Printer;", Cond.classLink RX11 43 RX10, Cond.instantiable RX10 7, Cond.initialized RX10, Cond.fieldLink RX11 48 "FormatDump" "wordDump" "LFormatDump$WordDump;"]
def wsX11_init_r2 : List Cond := [Cond.classLink RX11 52 RX6, Cond.instantiable RX6 3, Cond.initialized RX6, Cond.fieldLink RX11 55 "FormatDump" "pairDump" "LFormatDump$PairDump;", Cond.classLink RX11 59 RX7, Cond.instantiable RX7 5, Cond.initialized RX7, Cond.fieldLink RX11 64 "FormatDump" "pairReader" "LFormatDump$PairReader;", Cond.fieldLink RX11 68 "FormatDump" "faultPlace" "I", Cond.fieldLink RX11 72 "FormatDump" "oddTexts" "I", Cond.methodLink RX11 9 yX4_init, Cond.instanceMethod yX4_init, Cond.code yX4_init cX4_init 1 none, Cond.methodLink RX4 3 objectInit, Cond.arrayClass .int, Cond.fieldLink RX4 9 "FormatDump$Figures" "lowestFirst" "[I", Cond.fieldLink RX4 15 "FormatDump$Figures" "size" "I", Cond.fieldLink RX4 19 "FormatDump$Figures" "large" "Z", Cond.methodLink RX11 14 yX9_init, Cond.instanceMethod yX9_init, Cond.code yX9_init cX9_init 2 none, Cond.methodLink RX9 3 objectInit, Cond.fieldLink RX9 9 "FormatDump$Row" "cells" "[I", Cond.fieldLink RX9 15 "FormatDump$Row" "limit" "I"]
def wsX11_init_r3 : List Cond := [Cond.fieldLink RX9 19 "FormatDump$Row" "size" "I", Cond.fieldLink RX9 22 "FormatDump$Row" "over" "Z", Cond.methodLink RX11 29 yX1_init, Cond.instanceMethod yX1_init, Cond.code yX1_init cX1_init 2 none, Cond.methodLink RX1 3 objectInit, Cond.classLink RX1 9 RX0, Cond.fieldLink RX1 11 "FormatDump$Arguments" "all" "[LFormatDump$Argument;", Cond.instantiable RX0 3, Cond.initialized RX0, Cond.classLink RX1 18 RX5, Cond.instantiable RX5 2, Cond.initialized RX5, Cond.fieldLink RX1 21 "FormatDump$Arguments" "reading" "LFormatDump$NumberReading;", Cond.fieldLink RX1 25 "FormatDump$Arguments" "count" "I", Cond.fieldLink RX1 29 "FormatDump$Arguments" "taken" "I", Cond.fieldLink RX1 32 "FormatDump$Arguments" "oddTexts" "I", Cond.methodLink RX1 17 yX0_init, Cond.instanceMethod yX0_init, Cond.code yX0_init cX0_init 1 none, Cond.methodLink RX0 3 objectInit, Cond.classLink RX0 9 RX9, Cond.fieldLink RX0 14 "FormatDump$Argument" "characters" "LFormatDump$Row;", Cond.fieldLink RX0 20 "FormatDump$Argument" "isText" "Z"]
def wsX11_init_r4 : List Cond := [Cond.fieldLink RX0 24 "FormatDump$Argument" "value" "J", Cond.methodLink RX0 11 yX9_init, Cond.methodLink RX1 20 yX5_init, Cond.instanceMethod yX5_init, Cond.code yX5_init cX5_init 1 none, Cond.methodLink RX5 3 objectInit, Cond.fieldLink RX5 9 "FormatDump$NumberReading" "value" "J", Cond.fieldLink RX5 15 "FormatDump$NumberReading" "odd" "Z", Cond.methodLink RX11 36 yX8_init, Cond.instanceMethod yX8_init, Cond.code yX8_init cX8_init 4 none, Cond.methodLink RX8 3 objectInit, Cond.fieldLink RX8 9 "FormatDump$Printer" "page" "LFormatDump$Row;", Cond.fieldLink RX8 15 "FormatDump$Printer" "arguments" "LFormatDump$Arguments;", Cond.fieldLink RX8 19 "FormatDump$Printer" "figures" "LFormatDump$Figures;", Cond.classLink RX8 23 RX3, Cond.instantiable RX3 2, Cond.initialized RX3, Cond.fieldLink RX8 26 "FormatDump$Printer" "escape" "LFormatDump$Escape;", Cond.classLink RX8 30 RX2, Cond.instantiable RX2 12, Cond.initialized RX2, Cond.fieldLink RX8 33 "FormatDump$Printer" "directive" "LFormatDump$Directive;", Cond.classLink RX8 37 RX9]
def wsX11_init_r5 : List Cond := [Cond.fieldLink RX8 42 "FormatDump$Printer" "piece" "LFormatDump$Row;", Cond.fieldLink RX8 45 "FormatDump$Printer" "raw" "LFormatDump$Row;", Cond.fieldLink RX8 48 "FormatDump$Printer" "ended" "Z", Cond.methodLink RX8 25 yX3_init, Cond.instanceMethod yX3_init, Cond.code yX3_init cX3_init 1 none, Cond.methodLink RX3 3 objectInit, Cond.fieldLink RX3 9 "FormatDump$Escape" "value" "I", Cond.fieldLink RX3 15 "FormatDump$Escape" "end" "I", Cond.methodLink RX8 32 yX2_init, Cond.instanceMethod yX2_init, Cond.code yX2_init cX2_init 1 none, Cond.methodLink RX2 3 objectInit, Cond.methodLink RX2 9 yX2_forget, Cond.instanceMethod yX2_forget, Cond.selects RX2 yX2_forget yX2_forget, Cond.code yX2_forget cX2_forget 1 none, Cond.fieldLink RX2 51 "FormatDump$Directive" "flagLeft" "Z", Cond.fieldLink RX2 77 "FormatDump$Directive" "flagPlus" "Z", Cond.fieldLink RX2 80 "FormatDump$Directive" "flagBlank" "Z", Cond.fieldLink RX2 83 "FormatDump$Directive" "flagMark" "Z", Cond.fieldLink RX2 47 "FormatDump$Directive" "flagZero" "Z", Cond.fieldLink RX2 86 "FormatDump$Directive" "starWidth" "Z", Cond.fieldLink RX2 89 "FormatDump$Directive" "starPrecision" "Z"]
def wsX11_init_r6 : List Cond := [Cond.fieldLink RX2 61 "FormatDump$Directive" "width" "I", Cond.fieldLink RX2 54 "FormatDump$Directive" "precision" "I", Cond.fieldLink RX2 92 "FormatDump$Directive" "bits" "I", Cond.fieldLink RX2 37 "FormatDump$Directive" "letter" "I", Cond.fieldLink RX2 14 "FormatDump$Directive" "end" "I", Cond.methodLink RX8 39 yX9_init, Cond.methodLink RX11 45 yX10_init, Cond.instanceMethod yX10_init, Cond.code yX10_init cX10_init 4 none, Cond.methodLink RX10 3 objectInit, Cond.fieldLink RX10 9 "FormatDump$WordDump" "page" "LFormatDump$Row;", Cond.fieldLink RX10 15 "FormatDump$WordDump" "bytes" "LFormatDump$Row;", Cond.fieldLink RX10 18 "FormatDump$WordDump" "figures" "LFormatDump$Figures;", Cond.classLink RX10 22 RX9, Cond.fieldLink RX10 27 "FormatDump$WordDump" "field" "LFormatDump$Row;", Cond.fieldLink RX10 30 "FormatDump$WordDump" "addressBase" "I", Cond.fieldLink RX10 34 "FormatDump$WordDump" "letter" "C", Cond.fieldLink RX10 38 "FormatDump$WordDump" "wordSize" "I", Cond.methodLink RX10 24 yX9_init, Cond.methodLink RX11 54 yX6_init, Cond.instanceMethod yX6_init, Cond.code yX6_init cX6_init 4 none, Cond.methodLink RX6 3 objectInit, Cond.fieldLink RX6 9 "FormatDump$PairDump" "page" "LFormatDump$Row;"]
def wsX11_init_r7 : List Cond := [Cond.fieldLink RX6 15 "FormatDump$PairDump" "bytes" "LFormatDump$Row;", Cond.fieldLink RX6 18 "FormatDump$PairDump" "figures" "LFormatDump$Figures;", Cond.methodLink RX11 61 yX7_init, Cond.instanceMethod yX7_init, Cond.code yX7_init cX7_init 2 none, Cond.methodLink RX7 3 objectInit, Cond.fieldLink RX7 9 "FormatDump$PairReader" "page" "LFormatDump$Row;", Cond.classLink RX7 15 RX9, Cond.fieldLink RX7 20 "FormatDump$PairReader" "found" "LFormatDump$Row;", Cond.fieldLink RX7 23 "FormatDump$PairReader" "lineBytes" "LFormatDump$Row;", Cond.fieldLink RX7 26 "FormatDump$PairReader" "total" "I", Cond.fieldLink RX7 30 "FormatDump$PairReader" "at" "I", Cond.methodLink RX7 17 yX9_init]
def wsX11_init : List Cond := .code yX11_init cX11_init 2 none :: ((wsX11_init_r1 ++ (wsX11_init_r2 ++ (wsX11_init_r3 ++ (wsX11_init_r4 ++ (wsX11_init_r5 ++ (wsX11_init_r6 ++ wsX11_init_r7)))))) ++ wsX40 ++ wsX90 ++ wsX110 ++ wsX10 ++ wsX80 ++ wsX100 ++ wsX60 ++ wsX70 ++ wsX00 ++ wsX50 ++ wsX30 ++ wsX20)
def wsX11_byteOf : List Cond := .code yX11_byteOf cX11_byteOf 2 (some .int) :: ([])
def wsX11_charactersIn : List Cond := .code yX11_charactersIn cX11_charactersIn 3 (some .int) :: ([.methodLink RX11 186 yX11_byteOf, .static yX11_byteOf, .initialized RX11, .code yX11_byteOf cX11_byteOf 2 (some .int)])
def wsX11_typeWord : List Cond := .code yX11_typeWord cX11_typeWord 4 none :: ([.fieldLink RX11 17 "FormatDump" "line" "LFormatDump$Row;", .methodLink RX11 186 yX11_byteOf, .static yX11_byteOf, .initialized RX11, .code yX11_byteOf cX11_byteOf 2 (some .int), .methodLink RX11 189 yX9_add, .instanceMethod yX9_add, .selects RX9 yX9_add yX9_add, .initialized RX9, .code yX9_add cX9_add 2 none, .fieldLink RX9 19 "FormatDump$Row" "size" "I", .fieldLink RX9 15 "FormatDump$Row" "limit" "I", .fieldLink RX9 9 "FormatDump$Row" "cells" "[I", .fieldLink RX9 22 "FormatDump$Row" "over" "Z"] ++ wsX110 ++ wsX90)
def wsX11_type_r1 : List Cond := [Cond.classLink RX11 83 "java/lang/IllegalStateException", Cond.initialized "java/lang/IllegalStateException", Cond.fieldLink RX11 17 "FormatDump" "line" "LFormatDump$Row;", Cond.methodLink RX11 75 yX11_charactersIn, Cond.static yX11_charactersIn, Cond.initialized RX11, Cond.code yX11_charactersIn cX11_charactersIn 3 (some .int), Cond.methodLink RX11 186 yX11_byteOf, Cond.static yX11_byteOf, Cond.code yX11_byteOf cX11_byteOf 2 (some .int), Cond.methodLink RX11 79 yX9_size, Cond.instanceMethod yX9_size, Cond.selects RX9 yX9_size yX9_size, Cond.initialized RX9, Cond.code yX9_size cX9_size 1 (some .int), Cond.fieldLink RX9 19 "FormatDump$Row" "size" "I", Cond.methodLink RX11 86 yX11_typeWord, Cond.instanceMethod yX11_typeWord, Cond.selects RX11 yX11_typeWord yX11_typeWord, Cond.code yX11_typeWord cX11_typeWord 4 none, Cond.methodLink RX11 189 yX9_add, Cond.instanceMethod yX9_add, Cond.selects RX9 yX9_add yX9_add, Cond.code yX9_add cX9_add 2 none]
def wsX11_type_r2 : List Cond := [Cond.fieldLink RX9 15 "FormatDump$Row" "limit" "I", Cond.fieldLink RX9 9 "FormatDump$Row" "cells" "[I", Cond.fieldLink RX9 22 "FormatDump$Row" "over" "Z"]
def wsX11_type : List Cond := .code yX11_type cX11_type 7 (some .int) :: ((wsX11_type_r1 ++ wsX11_type_r2) ++ wsX110 ++ wsX90 ++ (vx_at0 RX11 85 "java/lang/IllegalStateException" ["java/lang/RuntimeException", "java/lang/Exception"]).filter goodWord)
def wsX11_erase : List Cond := .code yX11_erase cX11_erase 2 (some .int) :: ([.fieldLink RX11 17 "FormatDump" "line" "LFormatDump$Row;", .methodLink RX11 79 yX9_size, .instanceMethod yX9_size, .selects RX9 yX9_size yX9_size, .initialized RX9, .code yX9_size cX9_size 1 (some .int), .fieldLink RX9 19 "FormatDump$Row" "size" "I", .methodLink RX11 89 yX9_clear, .instanceMethod yX9_clear, .selects RX9 yX9_clear yX9_clear, .code yX9_clear cX9_clear 1 none, .fieldLink RX9 22 "FormatDump$Row" "over" "Z"] ++ wsX110 ++ wsX90)
def wsX11_number : List Cond := .code yX11_number cX11_number 3 (some .int) :: ([.classLink RX11 83 "java/lang/IllegalStateException", .initialized "java/lang/IllegalStateException", .fieldLink RX11 30 "FormatDump" "arguments" "LFormatDump$Arguments;", .methodLink RX11 92 yX1_count, .instanceMethod yX1_count, .selects RX1 yX1_count yX1_count, .initialized RX1, .code yX1_count cX1_count 1 (some .int), .fieldLink RX1 25 "FormatDump$Arguments" "count" "I", .methodLink RX11 95 yX1_addNumber, .instanceMethod yX1_addNumber, .selects RX1 yX1_addNumber yX1_addNumber, .code yX1_addNumber cX1_addNumber 3 none, .fieldLink RX1 11 "FormatDump$Arguments" "all" "[LFormatDump$Argument;", .fieldLink RX1 35 "FormatDump$Argument" "isText" "Z", .fieldLink RX1 39 "FormatDump$Argument" "value" "J"] ++ wsX110 ++ wsX10 ++ wsX00 ++ (vx_at0 RX11 85 "java/lang/IllegalStateException" ["java/lang/RuntimeException", "java/lang/Exception"]).filter goodWord)
def wsX11_text_r1 : List Cond := [Cond.classLink RX11 83 "java/lang/IllegalStateException", Cond.initialized "java/lang/IllegalStateException", Cond.fieldLink RX11 30 "FormatDump" "arguments" "LFormatDump$Arguments;", Cond.fieldLink RX11 17 "FormatDump" "line" "LFormatDump$Row;", Cond.methodLink RX11 92 yX1_count, Cond.instanceMethod yX1_count, Cond.selects RX1 yX1_count yX1_count, Cond.initialized RX1, Cond.code yX1_count cX1_count 1 (some .int), Cond.fieldLink RX1 25 "FormatDump$Arguments" "count" "I", Cond.methodLink RX11 99 yX1_addText, Cond.instanceMethod yX1_addText, Cond.selects RX1 yX1_addText yX1_addText, Cond.code yX1_addText cX1_addText 2 none, Cond.fieldLink RX1 11 "FormatDump$Arguments" "all" "[LFormatDump$Argument;", Cond.fieldLink RX1 35 "FormatDump$Argument" "isText" "Z", Cond.fieldLink RX1 43 "FormatDump$Argument" "characters" "LFormatDump$Row;", Cond.methodLink RX1 47 yX9_copyOf, Cond.instanceMethod yX9_copyOf, Cond.selects RX9 yX9_copyOf yX9_copyOf, Cond.initialized RX9, Cond.code yX9_copyOf cX9_copyOf 3 none, Cond.methodLink RX9 39 yX9_clear, Cond.instanceMethod yX9_clear]
def wsX11_text_r2 : List Cond := [Cond.selects RX9 yX9_clear yX9_clear, Cond.code yX9_clear cX9_clear 1 none, Cond.fieldLink RX9 19 "FormatDump$Row" "size" "I", Cond.fieldLink RX9 22 "FormatDump$Row" "over" "Z", Cond.methodLink RX9 42 yX9_size, Cond.instanceMethod yX9_size, Cond.selects RX9 yX9_size yX9_size, Cond.code yX9_size cX9_size 1 (some .int), Cond.methodLink RX9 45 yX9_at, Cond.instanceMethod yX9_at, Cond.selects RX9 yX9_at yX9_at, Cond.code yX9_at cX9_at 2 (some .int), Cond.fieldLink RX9 9 "FormatDump$Row" "cells" "[I", Cond.methodLink RX9 35 yX9_add, Cond.instanceMethod yX9_add, Cond.selects RX9 yX9_add yX9_add, Cond.code yX9_add cX9_add 2 none, Cond.fieldLink RX9 15 "FormatDump$Row" "limit" "I", Cond.methodLink RX11 89 yX9_clear]
def wsX11_text : List Cond := .code yX11_text cX11_text 1 (some .int) :: ((wsX11_text_r1 ++ wsX11_text_r2) ++ wsX110 ++ wsX10 ++ wsX00 ++ wsX90 ++ (vx_at0 RX11 85 "java/lang/IllegalStateException" ["java/lang/RuntimeException", "java/lang/Exception"]).filter goodWord)
def wsX11_none : List Cond := .code yX11_none cX11_none 2 (some .int) :: ([.fieldLink RX11 30 "FormatDump" "arguments" "LFormatDump$Arguments;", .methodLink RX11 92 yX1_count, .instanceMethod yX1_count, .selects RX1 yX1_count yX1_count, .initialized RX1, .code yX1_count cX1_count 1 (some .int), .fieldLink RX1 25 "FormatDump$Arguments" "count" "I", .methodLink RX11 102 yX1_clear, .instanceMethod yX1_clear, .selects RX1 yX1_clear yX1_clear, .code yX1_clear cX1_clear 1 none] ++ wsX110 ++ wsX10)
def wsX11_room : List Cond := .code yX11_room cX11_room 2 none :: ([.classLink RX11 103 "java/lang/IllegalArgumentException", .initialized "java/lang/IllegalArgumentException", .fieldLink RX11 21 "FormatDump" "page" "LFormatDump$Row;", .methodLink RX11 106 yX9_limitTo, .instanceMethod yX9_limitTo, .selects RX9 yX9_limitTo yX9_limitTo, .initialized RX9, .code yX9_limitTo cX9_limitTo 2 none, .fieldLink RX9 9 "FormatDump$Row" "cells" "[I", .methodLink RX9 26 Lib.Math.min.name, .static Lib.Math.min.name, .initialized "java/lang/Math", .code Lib.Math.min.name Lib.Math.min.code 2 (some .int), .methodLink RX9 32 Lib.Math.max.name, .static Lib.Math.max.name, .code Lib.Math.max.name Lib.Math.max.code 2 (some .int), .fieldLink RX9 15 "FormatDump$Row" "limit" "I", .methodLink RX11 89 yX9_clear, .instanceMethod yX9_clear, .selects RX9 yX9_clear yX9_clear, .code yX9_clear cX9_clear 1 none, .fieldLink RX9 19 "FormatDump$Row" "size" "I", .fieldLink RX9 22 "FormatDump$Row" "over" "Z"] ++ wsX110 ++ wsX90 ++ (vx_at0 RX11 105 "java/lang/IllegalArgumentException" ["java/lang/RuntimeException", "java/lang/Exception"]).filter goodWord)
def wsX11_answerOfPage : List Cond := .code yX11_answerOfPage cX11_answerOfPage 1 (some .int) :: ([.fieldLink RX11 21 "FormatDump" "page" "LFormatDump$Row;", .methodLink RX11 171 yX9_isOver, .instanceMethod yX9_isOver, .selects RX9 yX9_isOver yX9_isOver, .initialized RX9, .code yX9_isOver cX9_isOver 1 (some .boolean), .fieldLink RX9 22 "FormatDump$Row" "over" "Z", .methodLink RX11 89 yX9_clear, .instanceMethod yX9_clear, .selects RX9 yX9_clear yX9_clear, .code yX9_clear cX9_clear 1 none, .fieldLink RX9 19 "FormatDump$Row" "size" "I", .methodLink RX11 79 yX9_size, .instanceMethod yX9_size, .selects RX9 yX9_size yX9_size, .code yX9_size cX9_size 1 (some .int)] ++ wsX110 ++ wsX90)
def wsX11_print_r1 : List Cond := [Cond.fieldLink RX11 39 "FormatDump" "printer" "LFormatDump$Printer;", Cond.fieldLink RX11 17 "FormatDump" "line" "LFormatDump$Row;", Cond.fieldLink RX11 68 "FormatDump" "faultPlace" "I", Cond.fieldLink RX11 30 "FormatDump" "arguments" "LFormatDump$Arguments;", Cond.fieldLink RX11 72 "FormatDump" "oddTexts" "I", Cond.methodLink RX11 109 yX8_faultIn, Cond.instanceMethod yX8_faultIn, Cond.selects RX8 yX8_faultIn yX8_faultIn, Cond.initialized RX8, Cond.code yX8_faultIn cX8_faultIn 5 (some .int), Cond.methodLink RX8 52 yX9_size, Cond.instanceMethod yX9_size, Cond.selects RX9 yX9_size yX9_size, Cond.initialized RX9, Cond.code yX9_size cX9_size 1 (some .int), Cond.fieldLink RX9 19 "FormatDump$Row" "size" "I", Cond.methodLink RX8 56 yX8_readPiece, Cond.instanceMethod yX8_readPiece, Cond.selects RX8 yX8_readPiece yX8_readPiece, Cond.code yX8_readPiece cX8_readPiece 4 (some .int), Cond.fieldLink RX8 26 "FormatDump$Printer" "escape" "LFormatDump$Escape;", Cond.fieldLink RX8 33 "FormatDump$Printer" "directive" "LFormatDump$Directive;", Cond.fieldLink RX8 91 "FormatDump$Directive" "end" "I", Cond.methodLink RX8 68 yX9_at]
def wsX11_print_r2 : List Cond := [Cond.instanceMethod yX9_at, Cond.selects RX9 yX9_at yX9_at, Cond.code yX9_at cX9_at 2 (some .int), Cond.fieldLink RX9 9 "FormatDump$Row" "cells" "[I", Cond.methodLink RX8 81 yX3_readInFormat, Cond.instanceMethod yX3_readInFormat, Cond.selects RX3 yX3_readInFormat yX3_readInFormat, Cond.initialized RX3, Cond.code yX3_readInFormat cX3_readInFormat 3 (some .boolean), Cond.fieldLink RX3 15 "FormatDump$Escape" "end" "I", Cond.methodLink RX3 18 yX3_readLetter, Cond.instanceMethod yX3_readLetter, Cond.selects RX3 yX3_readLetter yX3_readLetter, Cond.code yX3_readLetter cX3_readLetter 3 (some .boolean), Cond.fieldLink RX3 9 "FormatDump$Escape" "value" "I", Cond.methodLink RX3 26 yX9_at, Cond.methodLink RX3 32 yX3_meaningOf, Cond.static yX3_meaningOf, Cond.code yX3_meaningOf cX3_meaningOf 1 (some .int), Cond.methodLink RX3 22 yX3_readOctal, Cond.instanceMethod yX3_readOctal, Cond.selects RX3 yX3_readOctal yX3_readOctal, Cond.code yX3_readOctal cX3_readOctal 4 none, Cond.static yX11_digitOf]
def wsX11_print_r3 : List Cond := [Cond.initialized RX11, Cond.code yX11_digitOf cX11_digitOf 3 (some .int), Cond.methodLink RX8 85 yX3_end, Cond.instanceMethod yX3_end, Cond.selects RX3 yX3_end yX3_end, Cond.code yX3_end cX3_end 1 (some .int), Cond.methodLink RX8 88 yX2_read, Cond.instanceMethod yX2_read, Cond.selects RX2 yX2_read yX2_read, Cond.initialized RX2, Cond.code yX2_read cX2_read 3 (some .boolean), Cond.fieldLink RX2 14 "FormatDump$Directive" "end" "I", Cond.fieldLink RX2 37 "FormatDump$Directive" "letter" "I", Cond.methodLink RX2 9 yX2_forget, Cond.instanceMethod yX2_forget, Cond.selects RX2 yX2_forget yX2_forget, Cond.code yX2_forget cX2_forget 1 none, Cond.fieldLink RX2 51 "FormatDump$Directive" "flagLeft" "Z", Cond.fieldLink RX2 77 "FormatDump$Directive" "flagPlus" "Z", Cond.fieldLink RX2 80 "FormatDump$Directive" "flagBlank" "Z", Cond.fieldLink RX2 83 "FormatDump$Directive" "flagMark" "Z", Cond.fieldLink RX2 47 "FormatDump$Directive" "flagZero" "Z", Cond.fieldLink RX2 86 "FormatDump$Directive" "starWidth" "Z", Cond.fieldLink RX2 89 "FormatDump$Directive" "starPrecision" "Z"]
def wsX11_print_r4 : List Cond := [Cond.fieldLink RX2 61 "FormatDump$Directive" "width" "I", Cond.fieldLink RX2 54 "FormatDump$Directive" "precision" "I", Cond.fieldLink RX2 92 "FormatDump$Directive" "bits" "I", Cond.methodLink RX2 18 yX2_readFlags, Cond.instanceMethod yX2_readFlags, Cond.selects RX2 yX2_readFlags yX2_readFlags, Cond.code yX2_readFlags cX2_readFlags 2 none, Cond.methodLink RX2 95 yX9_size, Cond.methodLink RX2 31 yX9_at, Cond.methodLink RX2 99 yX2_noteFlag, Cond.instanceMethod yX2_noteFlag, Cond.selects RX2 yX2_noteFlag yX2_noteFlag, Cond.code yX2_noteFlag cX2_noteFlag 2 (some .boolean), Cond.methodLink RX2 22 yX2_readWidth, Cond.instanceMethod yX2_readWidth, Cond.selects RX2 yX2_readWidth yX2_readWidth, Cond.code yX2_readWidth cX2_readWidth 2 none, Cond.methodLink RX2 103 yX2_readTwoDigits, Cond.instanceMethod yX2_readTwoDigits, Cond.selects RX2 yX2_readTwoDigits yX2_readTwoDigits, Cond.code yX2_readTwoDigits cX2_readTwoDigits 4 (some .int), Cond.methodLink RX2 25 yX2_readPrecision, Cond.instanceMethod yX2_readPrecision, Cond.selects RX2 yX2_readPrecision yX2_readPrecision]
def wsX11_print_r5 : List Cond := [Cond.code yX2_readPrecision cX2_readPrecision 2 none, Cond.methodLink RX2 28 yX2_readLength, Cond.instanceMethod yX2_readLength, Cond.selects RX2 yX2_readLength yX2_readLength, Cond.code yX2_readLength cX2_readLength 3 none, Cond.methodLink RX2 40 yX2_isLetter, Cond.instanceMethod yX2_isLetter, Cond.selects RX2 yX2_isLetter yX2_isLetter, Cond.code yX2_isLetter cX2_isLetter 1 (some .boolean), Cond.methodLink RX11 113 yX8_begin, Cond.instanceMethod yX8_begin, Cond.selects RX8 yX8_begin yX8_begin, Cond.code yX8_begin cX8_begin 1 none, Cond.fieldLink RX8 9 "FormatDump$Printer" "page" "LFormatDump$Row;", Cond.fieldLink RX8 15 "FormatDump$Printer" "arguments" "LFormatDump$Arguments;", Cond.fieldLink RX8 48 "FormatDump$Printer" "ended" "Z", Cond.methodLink RX8 60 yX9_clear, Cond.instanceMethod yX9_clear, Cond.selects RX9 yX9_clear yX9_clear, Cond.code yX9_clear cX9_clear 1 none, Cond.fieldLink RX9 22 "FormatDump$Row" "over" "Z", Cond.methodLink RX8 63 yX1_takeFromFront, Cond.instanceMethod yX1_takeFromFront, Cond.selects RX1 yX1_takeFromFront yX1_takeFromFront]
def wsX11_print_r6 : List Cond := [Cond.initialized RX1, Cond.code yX1_takeFromFront cX1_takeFromFront 1 none, Cond.fieldLink RX1 29 "FormatDump$Arguments" "taken" "I", Cond.fieldLink RX1 32 "FormatDump$Arguments" "oddTexts" "I", Cond.methodLink RX11 116 yX1_taken, Cond.instanceMethod yX1_taken, Cond.selects RX1 yX1_taken yX1_taken, Cond.code yX1_taken cX1_taken 1 (some .int), Cond.methodLink RX11 119 yX8_printOnce, Cond.instanceMethod yX8_printOnce, Cond.selects RX8 yX8_printOnce yX8_printOnce, Cond.code yX8_printOnce cX8_printOnce 6 none, Cond.methodLink RX8 72 yX3_value, Cond.instanceMethod yX3_value, Cond.selects RX3 yX3_value yX3_value, Cond.code yX3_value cX3_value 1 (some .int), Cond.methodLink RX8 75 yX9_add, Cond.instanceMethod yX9_add, Cond.selects RX9 yX9_add yX9_add, Cond.code yX9_add cX9_add 2 none, Cond.fieldLink RX9 15 "FormatDump$Row" "limit" "I", Cond.methodLink RX8 78 yX8_printDirective, Cond.instanceMethod yX8_printDirective, Cond.selects RX8 yX8_printDirective yX8_printDirective]
def wsX11_print_r7 : List Cond := [Cond.code yX8_printDirective cX8_printDirective 1 none, Cond.fieldLink RX8 94 "FormatDump$Directive" "starWidth" "Z", Cond.fieldLink RX8 105 "FormatDump$Directive" "starPrecision" "Z", Cond.fieldLink RX8 111 "FormatDump$Directive" "letter" "I", Cond.methodLink RX8 97 yX1_takeNumber, Cond.instanceMethod yX1_takeNumber, Cond.selects RX1 yX1_takeNumber yX1_takeNumber, Cond.code yX1_takeNumber cX1_takeNumber 2 (some .long), Cond.fieldLink RX1 35 "FormatDump$Argument" "isText" "Z", Cond.fieldLink RX1 39 "FormatDump$Argument" "value" "J", Cond.fieldLink RX1 21 "FormatDump$Arguments" "reading" "LFormatDump$NumberReading;", Cond.fieldLink RX1 43 "FormatDump$Argument" "characters" "LFormatDump$Row;", Cond.methodLink RX1 53 yX1_takeNext, Cond.instanceMethod yX1_takeNext, Cond.selects RX1 yX1_takeNext yX1_takeNext, Cond.code yX1_takeNext cX1_takeNext 1 (some (.object "FormatDump$Argument")), Cond.fieldLink RX1 25 "FormatDump$Arguments" "count" "I", Cond.fieldLink RX1 11 "FormatDump$Arguments" "all" "[LFormatDump$Argument;", Cond.methodLink RX1 57 yX5_read, Cond.instanceMethod yX5_read, Cond.selects RX5 yX5_read yX5_read, Cond.initialized RX5, Cond.code yX5_read cX5_read 4 none, Cond.fieldLink RX5 9 "FormatDump$NumberReading" "value" "J"]
def wsX11_print_r8 : List Cond := [Cond.methodLink RX5 19 yX9_at, Cond.methodLink RX5 25 yX5_readCharacter, Cond.instanceMethod yX5_readCharacter, Cond.selects RX5 yX5_readCharacter yX5_readCharacter, Cond.code yX5_readCharacter cX5_readCharacter 2 none, Cond.fieldLink RX5 15 "FormatDump$NumberReading" "odd" "Z", Cond.methodLink RX5 37 yX9_size, Cond.methodLink RX5 29 yX5_readDigits, Cond.instanceMethod yX5_readDigits, Cond.selects RX5 yX5_readDigits yX5_readDigits, Cond.code yX5_readDigits cX5_readDigits 5 none, Cond.methodLink RX5 33 yX5_isHexadecimal, Cond.static yX5_isHexadecimal, Cond.code yX5_isHexadecimal cX5_isHexadecimal 3 (some .boolean), Cond.methodLink RX1 60 yX5_isOdd, Cond.instanceMethod yX5_isOdd, Cond.selects RX5 yX5_isOdd yX5_isOdd, Cond.code yX5_isOdd cX5_isOdd 1 (some .boolean), Cond.methodLink RX1 64 yX5_value, Cond.instanceMethod yX5_value, Cond.selects RX5 yX5_value yX5_value, Cond.code yX5_value cX5_value 1 (some .long), Cond.methodLink RX8 101 yX2_takeWidth, Cond.instanceMethod yX2_takeWidth]
def wsX11_print_r9 : List Cond := [Cond.selects RX2 yX2_takeWidth yX2_takeWidth, Cond.code yX2_takeWidth cX2_takeWidth 4 none, Cond.methodLink RX2 57 yX2_cutToStar, Cond.static yX2_cutToStar, Cond.code yX2_cutToStar cX2_cutToStar 2 (some .int), Cond.constantLong RX2 64 (-99), Cond.constantLong RX2 66 (99), Cond.methodLink RX2 68 Lib.MathLoose.min_long.x, Cond.static Lib.MathLoose.min_long.x, Cond.initialized "java/lang/Math", Cond.code Lib.MathLoose.min_long.x Lib.MathLoose.min_long.code 4 (some .long), Cond.methodLink RX2 74 Lib.MathLoose.max_long.x, Cond.static Lib.MathLoose.max_long.x, Cond.code Lib.MathLoose.max_long.x Lib.MathLoose.max_long.code 4 (some .long), Cond.methodLink RX8 108 yX2_takePrecision, Cond.instanceMethod yX2_takePrecision, Cond.selects RX2 yX2_takePrecision yX2_takePrecision, Cond.code yX2_takePrecision cX2_takePrecision 3 none, Cond.methodLink RX8 114 yX1_takeNext, Cond.methodLink RX8 118 yX8_loadCharacter, Cond.instanceMethod yX8_loadCharacter, Cond.selects RX8 yX8_loadCharacter yX8_loadCharacter, Cond.code yX8_loadCharacter cX8_loadCharacter 2 none, Cond.fieldLink RX8 42 "FormatDump$Printer" "piece" "LFormatDump$Row;"]
def wsX11_print_r10 : List Cond := [Cond.fieldLink RX8 137 "FormatDump$Argument" "isText" "Z", Cond.fieldLink RX8 142 "FormatDump$Argument" "value" "J", Cond.fieldLink RX8 145 "FormatDump$Argument" "characters" "LFormatDump$Row;", Cond.methodLink RX8 122 yX8_printFilled, Cond.instanceMethod yX8_printFilled, Cond.selects RX8 yX8_printFilled yX8_printFilled, Cond.code yX8_printFilled cX8_printFilled 3 none, Cond.fieldLink RX8 174 "FormatDump$Directive" "width" "I", Cond.fieldLink RX8 177 "FormatDump$Directive" "flagLeft" "Z", Cond.methodLink RX8 180 yX9_addMany, Cond.instanceMethod yX9_addMany, Cond.selects RX9 yX9_addMany yX9_addMany, Cond.code yX9_addMany cX9_addMany 4 none, Cond.methodLink RX9 35 yX9_add, Cond.methodLink RX8 125 yX8_loadText, Cond.instanceMethod yX8_loadText, Cond.selects RX8 yX8_loadText yX8_loadText, Cond.code yX8_loadText cX8_loadText 2 none, Cond.methodLink RX8 148 yX9_copyOf, Cond.instanceMethod yX9_copyOf, Cond.selects RX9 yX9_copyOf yX9_copyOf, Cond.code yX9_copyOf cX9_copyOf 3 none, Cond.methodLink RX9 39 yX9_clear, Cond.methodLink RX9 42 yX9_size]
def wsX11_print_r11 : List Cond := [Cond.methodLink RX9 45 yX9_at, Cond.methodLink RX8 152 yX8_loadNumber, Cond.instanceMethod yX8_loadNumber, Cond.selects RX8 yX8_loadNumber yX8_loadNumber, Cond.code yX8_loadNumber cX8_loadNumber 3 none, Cond.fieldLink RX8 19 "FormatDump$Printer" "figures" "LFormatDump$Figures;", Cond.methodLink RX8 155 yX4_take, Cond.instanceMethod yX4_take, Cond.selects RX4 yX4_take yX4_take, Cond.initialized RX4, Cond.code yX4_take cX4_take 11 none, Cond.methodLink RX4 23 Lib.Math.max.name, Cond.static Lib.Math.max.name, Cond.code Lib.Math.max.name Lib.Math.max.code 2 (some .int), Cond.fieldLink RX4 15 "FormatDump$Figures" "size" "I", Cond.fieldLink RX4 19 "FormatDump$Figures" "large" "Z", Cond.fieldLink RX4 9 "FormatDump$Figures" "lowestFirst" "[I", Cond.methodLink RX8 161 yX4_writeTo, Cond.instanceMethod yX4_writeTo, Cond.selects RX4 yX4_writeTo yX4_writeTo, Cond.code yX4_writeTo cX4_writeTo 4 none, Cond.methodLink RX4 29 yX4_characterOf, Cond.instanceMethod yX4_characterOf, Cond.selects RX4 yX4_characterOf yX4_characterOf]
def wsX11_print_r12 : List Cond := [Cond.code yX4_characterOf cX4_characterOf 2 (some .int), Cond.methodLink RX4 33 yX9_add, Cond.methodLink RX8 128 yX8_keepPrecision, Cond.instanceMethod yX8_keepPrecision, Cond.selects RX8 yX8_keepPrecision yX8_keepPrecision, Cond.code yX8_keepPrecision cX8_keepPrecision 1 none, Cond.fieldLink RX8 168 "FormatDump$Directive" "precision" "I", Cond.methodLink RX8 171 yX9_keepFirst, Cond.instanceMethod yX9_keepFirst, Cond.selects RX9 yX9_keepFirst yX9_keepFirst, Cond.code yX9_keepFirst cX9_keepFirst 4 (some .int), Cond.methodLink RX9 26 Lib.Math.min.name, Cond.static Lib.Math.min.name, Cond.code Lib.Math.min.name Lib.Math.min.code 2 (some .int), Cond.methodLink RX9 32 Lib.Math.max.name, Cond.methodLink RX8 131 yX8_unescapePiece, Cond.instanceMethod yX8_unescapePiece, Cond.selects RX8 yX8_unescapePiece yX8_unescapePiece, Cond.code yX8_unescapePiece cX8_unescapePiece 4 none, Cond.fieldLink RX8 45 "FormatDump$Printer" "raw" "LFormatDump$Row;", Cond.methodLink RX8 165 yX3_readInText, Cond.instanceMethod yX3_readInText, Cond.selects RX3 yX3_readInText yX3_readInText, Cond.code yX3_readInText cX3_readInText 3 (some .boolean)]
def wsX11_print_r13 : List Cond := [Cond.methodLink RX8 134 yX8_printNumber, Cond.instanceMethod yX8_printNumber, Cond.selects RX8 yX8_printNumber yX8_printNumber, Cond.code yX8_printNumber cX8_printNumber 12 none, Cond.fieldLink RX8 198 "FormatDump$Directive" "flagMark" "Z", Cond.methodLink RX8 184 yX8_narrowed, Cond.instanceMethod yX8_narrowed, Cond.selects RX8 yX8_narrowed yX8_narrowed, Cond.code yX8_narrowed cX8_narrowed 6 (some .long), Cond.fieldLink RX8 211 "FormatDump$Directive" "bits" "I", Cond.methodLink RX8 188 yX2_isSigned, Cond.instanceMethod yX2_isSigned, Cond.selects RX2 yX2_isSigned yX2_isSigned, Cond.code yX2_isSigned cX2_isSigned 1 (some .boolean), Cond.methodLink RX8 192 yX2_base, Cond.instanceMethod yX2_base, Cond.selects RX2 yX2_base yX2_base, Cond.code yX2_base cX2_base 1 (some .int), Cond.methodLink RX2 44 yX2_isHexadecimal, Cond.instanceMethod yX2_isHexadecimal, Cond.selects RX2 yX2_isHexadecimal yX2_isHexadecimal, Cond.code yX2_isHexadecimal cX2_isHexadecimal 1 (some .boolean), Cond.methodLink RX8 195 yX8_digitsDue, Cond.instanceMethod yX8_digitsDue]
def wsX11_print_r14 : List Cond := [Cond.selects RX8 yX8_digitsDue yX8_digitsDue, Cond.code yX8_digitsDue cX8_digitsDue 3 (some .int), Cond.methodLink RX8 215 Lib.Math.max.name, Cond.methodLink RX8 214 yX4_size, Cond.instanceMethod yX4_size, Cond.selects RX4 yX4_size yX4_size, Cond.code yX4_size cX4_size 1 (some .int), Cond.methodLink RX8 201 yX2_isHexadecimal, Cond.methodLink RX8 204 yX8_signOf, Cond.instanceMethod yX8_signOf, Cond.selects RX8 yX8_signOf yX8_signOf, Cond.code yX8_signOf cX8_signOf 2 (some .int), Cond.fieldLink RX8 221 "FormatDump$Directive" "flagPlus" "Z", Cond.fieldLink RX8 224 "FormatDump$Directive" "flagBlank" "Z", Cond.methodLink RX8 208 yX2_fillsWithZeros, Cond.instanceMethod yX2_fillsWithZeros, Cond.selects RX2 yX2_fillsWithZeros yX2_fillsWithZeros, Cond.code yX2_fillsWithZeros cX2_fillsWithZeros 1 (some .boolean), Cond.methodLink RX11 92 yX1_count, Cond.instanceMethod yX1_count, Cond.selects RX1 yX1_count yX1_count, Cond.code yX1_count cX1_count 1 (some .int), Cond.methodLink RX11 122 yX8_hasEnded, Cond.instanceMethod yX8_hasEnded]
def wsX11_print_r15 : List Cond := [Cond.selects RX8 yX8_hasEnded yX8_hasEnded, Cond.code yX8_hasEnded cX8_hasEnded 1 (some .boolean), Cond.methodLink RX11 126 yX11_answerOfPage, Cond.instanceMethod yX11_answerOfPage, Cond.selects RX11 yX11_answerOfPage yX11_answerOfPage, Cond.code yX11_answerOfPage cX11_answerOfPage 1 (some .int), Cond.fieldLink RX11 21 "FormatDump" "page" "LFormatDump$Row;", Cond.methodLink RX11 171 yX9_isOver, Cond.instanceMethod yX9_isOver, Cond.selects RX9 yX9_isOver yX9_isOver, Cond.code yX9_isOver cX9_isOver 1 (some .boolean), Cond.methodLink RX11 89 yX9_clear, Cond.methodLink RX11 79 yX9_size, Cond.methodLink RX11 129 yX1_oddTexts, Cond.instanceMethod yX1_oddTexts, Cond.selects RX1 yX1_oddTexts yX1_oddTexts, Cond.code yX1_oddTexts cX1_oddTexts 1 (some .int)]
def wsX11_print : List Cond := .code yX11_print cX11_print 5 (some .int) :: ((wsX11_print_r1 ++ (wsX11_print_r2 ++ (wsX11_print_r3 ++ (wsX11_print_r4 ++ (wsX11_print_r5 ++ (wsX11_print_r6 ++ (wsX11_print_r7 ++ (wsX11_print_r8 ++ (wsX11_print_r9 ++ (wsX11_print_r10 ++ (wsX11_print_r11 ++ (wsX11_print_r12 ++ (wsX11_print_r13 ++ (wsX11_print_r14 ++ wsX11_print_r15)))))))))))))) ++ wsX110 ++ wsX90 ++ wsX80 ++ wsX20 ++ wsX30 ++ wsX10 ++ wsX00 ++ wsX50 ++ wsX40)
def wsX11_odd : List Cond := .code yX11_odd cX11_odd 1 (some .int) :: ([.fieldLink RX11 72 "FormatDump" "oddTexts" "I"] ++ wsX110)
def wsX11_feedWord : List Cond := .code yX11_feedWord cX11_feedWord 4 none :: ([.fieldLink RX11 24 "FormatDump" "bytes" "LFormatDump$Row;", .methodLink RX11 186 yX11_byteOf, .static yX11_byteOf, .initialized RX11, .code yX11_byteOf cX11_byteOf 2 (some .int), .methodLink RX11 189 yX9_add, .instanceMethod yX9_add, .selects RX9 yX9_add yX9_add, .initialized RX9, .code yX9_add cX9_add 2 none, .fieldLink RX9 19 "FormatDump$Row" "size" "I", .fieldLink RX9 15 "FormatDump$Row" "limit" "I", .fieldLink RX9 9 "FormatDump$Row" "cells" "[I", .fieldLink RX9 22 "FormatDump$Row" "over" "Z"] ++ wsX110 ++ wsX90)
def wsX11_feed_r1 : List Cond := [Cond.classLink RX11 103 "java/lang/IllegalArgumentException", Cond.initialized "java/lang/IllegalArgumentException", Cond.classLink RX11 83 "java/lang/IllegalStateException", Cond.initialized "java/lang/IllegalStateException", Cond.fieldLink RX11 24 "FormatDump" "bytes" "LFormatDump$Row;", Cond.methodLink RX11 79 yX9_size, Cond.instanceMethod yX9_size, Cond.selects RX9 yX9_size yX9_size, Cond.initialized RX9, Cond.code yX9_size cX9_size 1 (some .int), Cond.fieldLink RX9 19 "FormatDump$Row" "size" "I", Cond.methodLink RX11 131 yX11_feedWord, Cond.instanceMethod yX11_feedWord, Cond.selects RX11 yX11_feedWord yX11_feedWord, Cond.initialized RX11, Cond.code yX11_feedWord cX11_feedWord 4 none, Cond.methodLink RX11 186 yX11_byteOf, Cond.static yX11_byteOf, Cond.code yX11_byteOf cX11_byteOf 2 (some .int), Cond.methodLink RX11 189 yX9_add, Cond.instanceMethod yX9_add, Cond.selects RX9 yX9_add yX9_add, Cond.code yX9_add cX9_add 2 none, Cond.fieldLink RX9 15 "FormatDump$Row" "limit" "I"]
def wsX11_feed_r2 : List Cond := [Cond.fieldLink RX9 9 "FormatDump$Row" "cells" "[I", Cond.fieldLink RX9 22 "FormatDump$Row" "over" "Z"]
def wsX11_feed : List Cond := .code yX11_feed cX11_feed 6 (some .int) :: ((wsX11_feed_r1 ++ wsX11_feed_r2) ++ wsX110 ++ wsX90 ++ (vx_at0 RX11 105 "java/lang/IllegalArgumentException" ["java/lang/RuntimeException", "java/lang/Exception"]).filter goodWord ++ (vx_at0 RX11 85 "java/lang/IllegalStateException" ["java/lang/RuntimeException", "java/lang/Exception"]).filter goodWord)
def wsX11_cut : List Cond := .code yX11_cut cX11_cut 2 (some .int) :: ([.classLink RX11 103 "java/lang/IllegalArgumentException", .initialized "java/lang/IllegalArgumentException", .fieldLink RX11 24 "FormatDump" "bytes" "LFormatDump$Row;", .methodLink RX11 79 yX9_size, .instanceMethod yX9_size, .selects RX9 yX9_size yX9_size, .initialized RX9, .code yX9_size cX9_size 1 (some .int), .fieldLink RX9 19 "FormatDump$Row" "size" "I", .methodLink RX11 135 yX9_keepFirst, .instanceMethod yX9_keepFirst, .selects RX9 yX9_keepFirst yX9_keepFirst, .code yX9_keepFirst cX9_keepFirst 4 (some .int), .methodLink RX9 26 Lib.Math.min.name, .static Lib.Math.min.name, .initialized "java/lang/Math", .code Lib.Math.min.name Lib.Math.min.code 2 (some .int), .methodLink RX9 32 Lib.Math.max.name, .static Lib.Math.max.name, .code Lib.Math.max.name Lib.Math.max.code 2 (some .int)] ++ wsX110 ++ wsX90 ++ (vx_at0 RX11 105 "java/lang/IllegalArgumentException" ["java/lang/RuntimeException", "java/lang/Exception"]).filter goodWord)
def wsX11_isAddressBase : List Cond := .code yX11_isAddressBase cX11_isAddressBase 1 (some .boolean) :: ([])
def wsX11_isWord : List Cond := .code yX11_isWord cX11_isWord 3 (some .boolean) :: ([])
def wsX11_words_r1 : List Cond := [Cond.classLink RX11 103 "java/lang/IllegalArgumentException", Cond.initialized "java/lang/IllegalArgumentException", Cond.fieldLink RX11 21 "FormatDump" "page" "LFormatDump$Row;", Cond.fieldLink RX11 48 "FormatDump" "wordDump" "LFormatDump$WordDump;", Cond.methodLink RX11 138 yX11_isAddressBase, Cond.static yX11_isAddressBase, Cond.initialized RX11, Cond.code yX11_isAddressBase cX11_isAddressBase 1 (some .boolean), Cond.methodLink RX11 142 yX11_isWord, Cond.static yX11_isWord, Cond.code yX11_isWord cX11_isWord 3 (some .boolean), Cond.methodLink RX11 89 yX9_clear, Cond.instanceMethod yX9_clear, Cond.selects RX9 yX9_clear yX9_clear, Cond.initialized RX9, Cond.code yX9_clear cX9_clear 1 none, Cond.fieldLink RX9 19 "FormatDump$Row" "size" "I", Cond.fieldLink RX9 22 "FormatDump$Row" "over" "Z", Cond.methodLink RX11 146 yX10_dump, Cond.instanceMethod yX10_dump, Cond.selects RX10 yX10_dump yX10_dump, Cond.initialized RX10, Cond.code yX10_dump cX10_dump 7 none, Cond.fieldLink RX10 30 "FormatDump$WordDump" "addressBase" "I"]
def wsX11_words_r2 : List Cond := [Cond.fieldLink RX10 34 "FormatDump$WordDump" "letter" "C", Cond.fieldLink RX10 38 "FormatDump$WordDump" "wordSize" "I", Cond.fieldLink RX10 15 "FormatDump$WordDump" "bytes" "LFormatDump$Row;", Cond.fieldLink RX10 9 "FormatDump$WordDump" "page" "LFormatDump$Row;", Cond.methodLink RX10 41 yX9_size, Cond.instanceMethod yX9_size, Cond.selects RX9 yX9_size yX9_size, Cond.code yX9_size cX9_size 1 (some .int), Cond.methodLink RX10 45 yX10_isLikeBefore, Cond.instanceMethod yX10_isLikeBefore, Cond.selects RX10 yX10_isLikeBefore yX10_isLikeBefore, Cond.code yX10_isLikeBefore cX10_isLikeBefore 3 (some .boolean), Cond.methodLink RX10 58 yX9_at, Cond.instanceMethod yX9_at, Cond.selects RX9 yX9_at yX9_at, Cond.code yX9_at cX9_at 2 (some .int), Cond.fieldLink RX9 9 "FormatDump$Row" "cells" "[I", Cond.methodLink RX10 49 yX10_writeLine, Cond.instanceMethod yX10_writeLine, Cond.selects RX10 yX10_writeLine yX10_writeLine, Cond.code yX10_writeLine cX10_writeLine 5 none, Cond.methodLink RX10 62 Lib.Math.min.name, Cond.static Lib.Math.min.name, Cond.initialized "java/lang/Math"]
def wsX11_words_r3 : List Cond := [Cond.code Lib.Math.min.name Lib.Math.min.code 2 (some .int), Cond.methodLink RX10 68 Lib.Math.max.name, Cond.static Lib.Math.max.name, Cond.code Lib.Math.max.name Lib.Math.max.code 2 (some .int), Cond.methodLink RX10 55 yX10_writeAddress, Cond.instanceMethod yX10_writeAddress, Cond.selects RX10 yX10_writeAddress yX10_writeAddress, Cond.code yX10_writeAddress cX10_writeAddress 2 none, Cond.fieldLink RX10 18 "FormatDump$WordDump" "figures" "LFormatDump$Figures;", Cond.methodLink RX10 79 yX4_take, Cond.instanceMethod yX4_take, Cond.selects RX4 yX4_take yX4_take, Cond.initialized RX4, Cond.code yX4_take cX4_take 11 none, Cond.methodLink RX4 23 Lib.Math.max.name, Cond.fieldLink RX4 15 "FormatDump$Figures" "size" "I", Cond.fieldLink RX4 19 "FormatDump$Figures" "large" "Z", Cond.fieldLink RX4 9 "FormatDump$Figures" "lowestFirst" "[I", Cond.methodLink RX10 85 yX4_writeTo, Cond.instanceMethod yX4_writeTo, Cond.selects RX4 yX4_writeTo yX4_writeTo, Cond.code yX4_writeTo cX4_writeTo 4 none, Cond.methodLink RX4 29 yX4_characterOf, Cond.instanceMethod yX4_characterOf]
def wsX11_words_r4 : List Cond := [Cond.selects RX4 yX4_characterOf yX4_characterOf, Cond.code yX4_characterOf cX4_characterOf 2 (some .int), Cond.methodLink RX4 33 yX9_add, Cond.instanceMethod yX9_add, Cond.selects RX9 yX9_add yX9_add, Cond.code yX9_add cX9_add 2 none, Cond.fieldLink RX9 15 "FormatDump$Row" "limit" "I", Cond.methodLink RX10 52 yX9_add, Cond.methodLink RX10 71 yX10_wordAt, Cond.instanceMethod yX10_wordAt, Cond.selects RX10 yX10_wordAt yX10_wordAt, Cond.code yX10_wordAt cX10_wordAt 6 (some .long), Cond.methodLink RX10 75 yX10_writeField, Cond.instanceMethod yX10_writeField, Cond.selects RX10 yX10_writeField yX10_writeField, Cond.code yX10_writeField cX10_writeField 4 none, Cond.fieldLink RX10 27 "FormatDump$WordDump" "field" "LFormatDump$Row;", Cond.methodLink RX10 89 yX9_clear, Cond.methodLink RX10 92 yX10_loadCharacter, Cond.instanceMethod yX10_loadCharacter, Cond.selects RX10 yX10_loadCharacter yX10_loadCharacter, Cond.code yX10_loadCharacter cX10_loadCharacter 3 none, Cond.methodLink RX10 111 yX10_nameOf, Cond.static yX10_nameOf]
def wsX11_words_r5 : List Cond := [Cond.code yX10_nameOf cX10_nameOf 1 (some .int), Cond.static yX11_canBeSeen, Cond.code yX11_canBeSeen cX11_canBeSeen 1 (some .boolean), Cond.methodLink RX10 95 yX10_loadNumber, Cond.instanceMethod yX10_loadNumber, Cond.selects RX10 yX10_loadNumber yX10_loadNumber, Cond.code yX10_loadNumber cX10_loadNumber 5 none, Cond.methodLink RX10 105 yX10_fieldBase, Cond.instanceMethod yX10_fieldBase, Cond.selects RX10 yX10_fieldBase yX10_fieldBase, Cond.code yX10_fieldBase cX10_fieldBase 1 (some .int), Cond.methodLink RX10 108 yX10_leastDigits, Cond.instanceMethod yX10_leastDigits, Cond.selects RX10 yX10_leastDigits yX10_leastDigits, Cond.code yX10_leastDigits cX10_leastDigits 1 (some .int), Cond.methodLink RX10 98 yX10_fieldWidth, Cond.instanceMethod yX10_fieldWidth, Cond.selects RX10 yX10_fieldWidth yX10_fieldWidth, Cond.code yX10_fieldWidth cX10_fieldWidth 1 (some .int), Cond.methodLink RX10 117 yX10_decimalWidth, Cond.instanceMethod yX10_decimalWidth, Cond.selects RX10 yX10_decimalWidth yX10_decimalWidth, Cond.code yX10_decimalWidth cX10_decimalWidth 1 (some .int), Cond.methodLink RX10 101 yX9_addMany]
def wsX11_words_r6 : List Cond := [Cond.instanceMethod yX9_addMany, Cond.selects RX9 yX9_addMany yX9_addMany, Cond.code yX9_addMany cX9_addMany 4 none, Cond.methodLink RX9 35 yX9_add, Cond.methodLink RX11 126 yX11_answerOfPage, Cond.instanceMethod yX11_answerOfPage, Cond.selects RX11 yX11_answerOfPage yX11_answerOfPage, Cond.code yX11_answerOfPage cX11_answerOfPage 1 (some .int), Cond.methodLink RX11 171 yX9_isOver, Cond.instanceMethod yX9_isOver, Cond.selects RX9 yX9_isOver yX9_isOver, Cond.code yX9_isOver cX9_isOver 1 (some .boolean), Cond.methodLink RX11 79 yX9_size]
def wsX11_words : List Cond := .code yX11_words cX11_words 5 (some .int) :: ((wsX11_words_r1 ++ (wsX11_words_r2 ++ (wsX11_words_r3 ++ (wsX11_words_r4 ++ (wsX11_words_r5 ++ wsX11_words_r6))))) ++ wsX110 ++ wsX90 ++ wsX100 ++ wsX40 ++ (vx_at0 RX11 105 "java/lang/IllegalArgumentException" ["java/lang/RuntimeException", "java/lang/Exception"]).filter goodWord)
def wsX11_isShape : List Cond := .code yX11_isShape cX11_isShape 2 (some .boolean) :: ([])
def wsX11_groupOf : List Cond := .code yX11_groupOf cX11_groupOf 2 (some .int) :: ([])
def wsX11_pairs_r1 : List Cond := [Cond.classLink RX11 103 "java/lang/IllegalArgumentException", Cond.initialized "java/lang/IllegalArgumentException", Cond.fieldLink RX11 21 "FormatDump" "page" "LFormatDump$Row;", Cond.fieldLink RX11 55 "FormatDump" "pairDump" "LFormatDump$PairDump;", Cond.methodLink RX11 150 yX11_isShape, Cond.static yX11_isShape, Cond.initialized RX11, Cond.code yX11_isShape cX11_isShape 2 (some .boolean), Cond.methodLink RX11 89 yX9_clear, Cond.instanceMethod yX9_clear, Cond.selects RX9 yX9_clear yX9_clear, Cond.initialized RX9, Cond.code yX9_clear cX9_clear 1 none, Cond.fieldLink RX9 19 "FormatDump$Row" "size" "I", Cond.fieldLink RX9 22 "FormatDump$Row" "over" "Z", Cond.methodLink RX11 154 yX11_groupOf, Cond.static yX11_groupOf, Cond.code yX11_groupOf cX11_groupOf 2 (some .int), Cond.methodLink RX11 158 yX6_dump, Cond.instanceMethod yX6_dump, Cond.selects RX6 yX6_dump yX6_dump, Cond.initialized RX6, Cond.code yX6_dump cX6_dump 9 none, Cond.methodLink RX6 26 Lib.Math.max.name]
def wsX11_pairs_r2 : List Cond := [Cond.static Lib.Math.max.name, Cond.initialized "java/lang/Math", Cond.code Lib.Math.max.name Lib.Math.max.code 2 (some .int), Cond.fieldLink RX6 15 "FormatDump$PairDump" "bytes" "LFormatDump$Row;", Cond.methodLink RX6 37 Lib.Math.min.name, Cond.static Lib.Math.min.name, Cond.code Lib.Math.min.name Lib.Math.min.code 2 (some .int), Cond.fieldLink RX6 9 "FormatDump$PairDump" "page" "LFormatDump$Row;", Cond.static yX11_pairsWidth, Cond.code yX11_pairsWidth cX11_pairsWidth 4 (some .int), Cond.methodLink RX11 195 yX11_endsGroup, Cond.static yX11_endsGroup, Cond.code yX11_endsGroup cX11_endsGroup 3 (some .boolean), Cond.methodLink RX6 31 yX9_size, Cond.instanceMethod yX9_size, Cond.selects RX9 yX9_size yX9_size, Cond.code yX9_size cX9_size 1 (some .int), Cond.methodLink RX6 40 yX6_writeDigits, Cond.instanceMethod yX6_writeDigits, Cond.selects RX6 yX6_writeDigits yX6_writeDigits, Cond.code yX6_writeDigits cX6_writeDigits 4 none, Cond.fieldLink RX6 18 "FormatDump$PairDump" "figures" "LFormatDump$Figures;", Cond.methodLink RX6 63 yX4_take, Cond.instanceMethod yX4_take]
def wsX11_pairs_r3 : List Cond := [Cond.selects RX4 yX4_take yX4_take, Cond.initialized RX4, Cond.code yX4_take cX4_take 11 none, Cond.methodLink RX4 23 Lib.Math.max.name, Cond.fieldLink RX4 15 "FormatDump$Figures" "size" "I", Cond.fieldLink RX4 19 "FormatDump$Figures" "large" "Z", Cond.fieldLink RX4 9 "FormatDump$Figures" "lowestFirst" "[I", Cond.methodLink RX6 69 yX4_writeTo, Cond.instanceMethod yX4_writeTo, Cond.selects RX4 yX4_writeTo yX4_writeTo, Cond.code yX4_writeTo cX4_writeTo 4 none, Cond.methodLink RX4 29 yX4_characterOf, Cond.instanceMethod yX4_characterOf, Cond.selects RX4 yX4_characterOf yX4_characterOf, Cond.code yX4_characterOf cX4_characterOf 2 (some .int), Cond.methodLink RX4 33 yX9_add, Cond.instanceMethod yX9_add, Cond.selects RX9 yX9_add yX9_add, Cond.code yX9_add cX9_add 2 none, Cond.fieldLink RX9 15 "FormatDump$Row" "limit" "I", Cond.fieldLink RX9 9 "FormatDump$Row" "cells" "[I", Cond.methodLink RX6 44 yX9_add, Cond.methodLink RX6 48 yX9_at, Cond.instanceMethod yX9_at]
def wsX11_pairs_r4 : List Cond := [Cond.selects RX9 yX9_at yX9_at, Cond.code yX9_at cX9_at 2 (some .int), Cond.methodLink RX6 56 yX9_addMany, Cond.instanceMethod yX9_addMany, Cond.selects RX9 yX9_addMany yX9_addMany, Cond.code yX9_addMany cX9_addMany 4 none, Cond.methodLink RX9 35 yX9_add, Cond.static yX11_seenAs, Cond.code yX11_seenAs cX11_seenAs 1 (some .int), Cond.methodLink RX11 192 yX11_canBeSeen, Cond.static yX11_canBeSeen, Cond.code yX11_canBeSeen cX11_canBeSeen 1 (some .boolean), Cond.methodLink RX11 126 yX11_answerOfPage, Cond.instanceMethod yX11_answerOfPage, Cond.selects RX11 yX11_answerOfPage yX11_answerOfPage, Cond.code yX11_answerOfPage cX11_answerOfPage 1 (some .int), Cond.methodLink RX11 171 yX9_isOver, Cond.instanceMethod yX9_isOver, Cond.selects RX9 yX9_isOver yX9_isOver, Cond.code yX9_isOver cX9_isOver 1 (some .boolean), Cond.methodLink RX11 79 yX9_size]
def wsX11_pairs : List Cond := .code yX11_pairs cX11_pairs 4 (some .int) :: ((wsX11_pairs_r1 ++ (wsX11_pairs_r2 ++ (wsX11_pairs_r3 ++ wsX11_pairs_r4))) ++ wsX110 ++ wsX90 ++ wsX60 ++ wsX40 ++ (vx_at0 RX11 105 "java/lang/IllegalArgumentException" ["java/lang/RuntimeException", "java/lang/Exception"]).filter goodWord)
def wsX11_back_r1 : List Cond := [Cond.classLink RX11 103 "java/lang/IllegalArgumentException", Cond.initialized "java/lang/IllegalArgumentException", Cond.fieldLink RX11 64 "FormatDump" "pairReader" "LFormatDump$PairReader;", Cond.fieldLink RX11 68 "FormatDump" "faultPlace" "I", Cond.fieldLink RX11 24 "FormatDump" "bytes" "LFormatDump$Row;", Cond.methodLink RX11 150 yX11_isShape, Cond.static yX11_isShape, Cond.initialized RX11, Cond.code yX11_isShape cX11_isShape 2 (some .boolean), Cond.methodLink RX11 154 yX11_groupOf, Cond.static yX11_groupOf, Cond.code yX11_groupOf cX11_groupOf 2 (some .int), Cond.methodLink RX11 161 yX7_readPage, Cond.instanceMethod yX7_readPage, Cond.selects RX7 yX7_readPage yX7_readPage, Cond.initialized RX7, Cond.code yX7_readPage cX7_readPage 6 (some .boolean), Cond.fieldLink RX7 20 "FormatDump$PairReader" "found" "LFormatDump$Row;", Cond.fieldLink RX7 26 "FormatDump$PairReader" "total" "I", Cond.fieldLink RX7 30 "FormatDump$PairReader" "at" "I", Cond.fieldLink RX7 9 "FormatDump$PairReader" "page" "LFormatDump$Row;", Cond.fieldLink RX7 23 "FormatDump$PairReader" "lineBytes" "LFormatDump$Row;", Cond.static yX11_pairsWidth, Cond.code yX11_pairsWidth cX11_pairsWidth 4 (some .int)]
def wsX11_back_r2 : List Cond := [Cond.methodLink RX11 195 yX11_endsGroup, Cond.static yX11_endsGroup, Cond.code yX11_endsGroup cX11_endsGroup 3 (some .boolean), Cond.methodLink RX7 37 yX9_clear, Cond.instanceMethod yX9_clear, Cond.selects RX9 yX9_clear yX9_clear, Cond.initialized RX9, Cond.code yX9_clear cX9_clear 1 none, Cond.fieldLink RX9 19 "FormatDump$Row" "size" "I", Cond.fieldLink RX9 22 "FormatDump$Row" "over" "Z", Cond.methodLink RX7 40 yX9_size, Cond.instanceMethod yX9_size, Cond.selects RX9 yX9_size yX9_size, Cond.code yX9_size cX9_size 1 (some .int), Cond.methodLink RX7 44 yX7_readLine, Cond.instanceMethod yX7_readLine, Cond.selects RX7 yX7_readLine yX7_readLine, Cond.code yX7_readLine cX7_readLine 5 (some .boolean), Cond.methodLink RX7 48 yX7_readAddress, Cond.instanceMethod yX7_readAddress, Cond.selects RX7 yX7_readAddress yX7_readAddress, Cond.code yX7_readAddress cX7_readAddress 2 (some .boolean), Cond.methodLink RX7 66 yX9_at, Cond.instanceMethod yX9_at]
def wsX11_back_r3 : List Cond := [Cond.selects RX9 yX9_at yX9_at, Cond.code yX9_at cX9_at 2 (some .int), Cond.fieldLink RX9 9 "FormatDump$Row" "cells" "[I", Cond.static yX11_digitOf, Cond.code yX11_digitOf cX11_digitOf 3 (some .int), Cond.methodLink RX7 52 yX7_readOne, Cond.instanceMethod yX7_readOne, Cond.selects RX7 yX7_readOne yX7_readOne, Cond.code yX7_readOne cX7_readOne 2 (some .boolean), Cond.methodLink RX7 56 yX7_readPairs, Cond.instanceMethod yX7_readPairs, Cond.selects RX7 yX7_readPairs yX7_readPairs, Cond.code yX7_readPairs cX7_readPairs 4 (some .boolean), Cond.methodLink RX7 72 yX7_readPair, Cond.instanceMethod yX7_readPair, Cond.selects RX7 yX7_readPair yX7_readPair, Cond.code yX7_readPair cX7_readPair 3 (some .boolean), Cond.methodLink RX7 78 yX9_add, Cond.instanceMethod yX9_add, Cond.selects RX9 yX9_add yX9_add, Cond.code yX9_add cX9_add 2 none, Cond.fieldLink RX9 15 "FormatDump$Row" "limit" "I", Cond.methodLink RX7 60 yX7_readBlanks, Cond.instanceMethod yX7_readBlanks]
def wsX11_back_r4 : List Cond := [Cond.selects RX7 yX7_readBlanks yX7_readBlanks, Cond.code yX7_readBlanks cX7_readBlanks 2 (some .boolean), Cond.methodLink RX7 63 yX7_readSeen, Cond.instanceMethod yX7_readSeen, Cond.selects RX7 yX7_readSeen yX7_readSeen, Cond.code yX7_readSeen cX7_readSeen 2 (some .boolean), Cond.static yX11_seenAs, Cond.code yX11_seenAs cX11_seenAs 1 (some .int), Cond.methodLink RX11 192 yX11_canBeSeen, Cond.static yX11_canBeSeen, Cond.code yX11_canBeSeen cX11_canBeSeen 1 (some .boolean), Cond.methodLink RX11 164 yX7_stop, Cond.instanceMethod yX7_stop, Cond.selects RX7 yX7_stop yX7_stop, Cond.code yX7_stop cX7_stop 1 (some .int), Cond.methodLink RX11 167 yX7_found, Cond.instanceMethod yX7_found, Cond.selects RX7 yX7_found yX7_found, Cond.code yX7_found cX7_found 1 (some (.object "FormatDump$Row")), Cond.methodLink RX11 171 yX9_isOver, Cond.instanceMethod yX9_isOver, Cond.selects RX9 yX9_isOver yX9_isOver, Cond.code yX9_isOver cX9_isOver 1 (some .boolean), Cond.methodLink RX11 174 yX9_copyOf]
def wsX11_back_r5 : List Cond := [Cond.instanceMethod yX9_copyOf, Cond.selects RX9 yX9_copyOf yX9_copyOf, Cond.code yX9_copyOf cX9_copyOf 3 none, Cond.methodLink RX9 39 yX9_clear, Cond.methodLink RX9 42 yX9_size, Cond.methodLink RX9 45 yX9_at, Cond.methodLink RX9 35 yX9_add, Cond.methodLink RX11 79 yX9_size]
def wsX11_back : List Cond := .code yX11_back cX11_back 4 (some .int) :: ((wsX11_back_r1 ++ (wsX11_back_r2 ++ (wsX11_back_r3 ++ (wsX11_back_r4 ++ wsX11_back_r5)))) ++ wsX110 ++ wsX70 ++ wsX90 ++ (vx_at0 RX11 105 "java/lang/IllegalArgumentException" ["java/lang/RuntimeException", "java/lang/Exception"]).filter goodWord)
def wsX11_patch : List Cond := .code yX11_patch cX11_patch 4 (some .int) :: ([.classLink RX11 180 "java/lang/IndexOutOfBoundsException", .initialized "java/lang/IndexOutOfBoundsException", .classLink RX11 103 "java/lang/IllegalArgumentException", .initialized "java/lang/IllegalArgumentException", .fieldLink RX11 21 "FormatDump" "page" "LFormatDump$Row;", .methodLink RX11 177 yX9_at, .instanceMethod yX9_at, .selects RX9 yX9_at yX9_at, .initialized RX9, .code yX9_at cX9_at 2 (some .int), .fieldLink RX9 19 "FormatDump$Row" "size" "I", .fieldLink RX9 9 "FormatDump$Row" "cells" "[I", .methodLink RX11 183 yX9_change, .instanceMethod yX9_change, .selects RX9 yX9_change yX9_change, .code yX9_change cX9_change 3 none] ++ wsX110 ++ wsX90 ++ (vx_at0 RX11 182 "java/lang/IndexOutOfBoundsException" ["java/lang/RuntimeException", "java/lang/Exception"]).filter goodWord ++ (vx_at0 RX11 105 "java/lang/IllegalArgumentException" ["java/lang/RuntimeException", "java/lang/Exception"]).filter goodWord)
def wsX11_trim : List Cond := .code yX11_trim cX11_trim 2 (some .int) :: ([.classLink RX11 103 "java/lang/IllegalArgumentException", .initialized "java/lang/IllegalArgumentException", .fieldLink RX11 21 "FormatDump" "page" "LFormatDump$Row;", .methodLink RX11 79 yX9_size, .instanceMethod yX9_size, .selects RX9 yX9_size yX9_size, .initialized RX9, .code yX9_size cX9_size 1 (some .int), .fieldLink RX9 19 "FormatDump$Row" "size" "I", .methodLink RX11 135 yX9_keepFirst, .instanceMethod yX9_keepFirst, .selects RX9 yX9_keepFirst yX9_keepFirst, .code yX9_keepFirst cX9_keepFirst 4 (some .int), .methodLink RX9 26 Lib.Math.min.name, .static Lib.Math.min.name, .initialized "java/lang/Math", .code Lib.Math.min.name Lib.Math.min.code 2 (some .int), .methodLink RX9 32 Lib.Math.max.name, .static Lib.Math.max.name, .code Lib.Math.max.name Lib.Math.max.code 2 (some .int)] ++ wsX110 ++ wsX90 ++ (vx_at0 RX11 105 "java/lang/IllegalArgumentException" ["java/lang/RuntimeException", "java/lang/Exception"]).filter goodWord)
def wsX11_place : List Cond := .code yX11_place cX11_place 1 (some .int) :: ([.fieldLink RX11 68 "FormatDump" "faultPlace" "I"] ++ wsX110)
def wsX11_output : List Cond := .code yX11_output cX11_output 2 (some .int) :: ([.fieldLink RX11 21 "FormatDump" "page" "LFormatDump$Row;", .methodLink RX11 177 yX9_at, .instanceMethod yX9_at, .selects RX9 yX9_at yX9_at, .initialized RX9, .code yX9_at cX9_at 2 (some .int), .fieldLink RX9 19 "FormatDump$Row" "size" "I", .fieldLink RX9 9 "FormatDump$Row" "cells" "[I"] ++ wsX110 ++ wsX90)
def wsX11_data : List Cond := .code yX11_data cX11_data 2 (some .int) :: ([.fieldLink RX11 24 "FormatDump" "bytes" "LFormatDump$Row;", .methodLink RX11 177 yX9_at, .instanceMethod yX9_at, .selects RX9 yX9_at yX9_at, .initialized RX9, .code yX9_at cX9_at 2 (some .int), .fieldLink RX9 19 "FormatDump$Row" "size" "I", .fieldLink RX9 9 "FormatDump$Row" "cells" "[I"] ++ wsX110 ++ wsX90)
def wsX12_init : List Cond := .code yX12_init cX12_init 1 none :: ([.methodLink RX12 1 objectInit, .instanceMethod objectInit, .code objectInit ⟨#[0xb1]⟩ 1 none, .arrayClass .char, .fieldLink RX12 7 "FormatDumpModel" "line" "[C", .arrayClass .boolean, .fieldLink RX12 13 "FormatDumpModel" "isText" "[Z", .arrayClass .long, .fieldLink RX12 17 "FormatDumpModel" "numbers" "[J", .arrayClass .int, .fieldLink RX12 21 "FormatDumpModel" "textSize" "[I", .fieldLink RX12 25 "FormatDumpModel" "texts" "[C", .fieldLink RX12 28 "FormatDumpModel" "bytes" "[I", .fieldLink RX12 31 "FormatDumpModel" "room" "I", .fieldLink RX12 35 "FormatDumpModel" "out" "[C", .fieldLink RX12 38 "FormatDumpModel" "faultPlace" "I", .fieldLink RX12 41 "FormatDumpModel" "row" "[C", .fieldLink RX12 44 "FormatDumpModel" "digits" "[C", .fieldLink RX12 47 "FormatDumpModel" "found" "[I"] ++ wsX120)
def wsX12_thrown : List Cond := .code yX12_thrown cX12_thrown 1 (some .int) :: ([.fieldLink RX12 50 "FormatDumpModel" "fault" "I"] ++ wsX120)
def wsX12_refused : List Cond := .code yX12_refused cX12_refused 2 (some .boolean) :: ([.fieldLink RX12 50 "FormatDumpModel" "fault" "I"] ++ wsX120)
def wsX12_isIn : List Cond := .code yX12_isIn cX12_isIn 3 (some .boolean) :: ([])
def wsX12_typed : List Cond := .code yX12_typed cX12_typed 6 (some .int) :: ([.fieldLink RX12 7 "FormatDumpModel" "line" "[C"] ++ wsX120)
def wsX12_type : List Cond := .code yX12_type cX12_type 7 (some .int) :: ([.fieldLink RX12 53 "FormatDumpModel" "lineSize" "I", .methodLink RX12 56 yX12_typed, .instanceMethod yX12_typed, .selects RX12 yX12_typed yX12_typed, .initialized RX12, .code yX12_typed cX12_typed 6 (some .int), .fieldLink RX12 7 "FormatDumpModel" "line" "[C", .methodLink RX12 60 yX12_refused, .instanceMethod yX12_refused, .selects RX12 yX12_refused yX12_refused, .code yX12_refused cX12_refused 2 (some .boolean), .fieldLink RX12 50 "FormatDumpModel" "fault" "I"] ++ wsX120)
def wsX12_erase : List Cond := .code yX12_erase cX12_erase 2 (some .int) :: ([.fieldLink RX12 50 "FormatDumpModel" "fault" "I", .fieldLink RX12 53 "FormatDumpModel" "lineSize" "I"] ++ wsX120)
def wsX12_number : List Cond := .code yX12_number cX12_number 3 (some .int) :: ([.fieldLink RX12 64 "FormatDumpModel" "arguments" "I", .fieldLink RX12 13 "FormatDumpModel" "isText" "[Z", .fieldLink RX12 17 "FormatDumpModel" "numbers" "[J", .methodLink RX12 60 yX12_refused, .instanceMethod yX12_refused, .selects RX12 yX12_refused yX12_refused, .initialized RX12, .code yX12_refused cX12_refused 2 (some .boolean), .fieldLink RX12 50 "FormatDumpModel" "fault" "I"] ++ wsX120)
def wsX12_text : List Cond := .code yX12_text cX12_text 2 (some .int) :: ([.fieldLink RX12 64 "FormatDumpModel" "arguments" "I", .fieldLink RX12 13 "FormatDumpModel" "isText" "[Z", .fieldLink RX12 21 "FormatDumpModel" "textSize" "[I", .fieldLink RX12 53 "FormatDumpModel" "lineSize" "I", .fieldLink RX12 25 "FormatDumpModel" "texts" "[C", .fieldLink RX12 7 "FormatDumpModel" "line" "[C", .methodLink RX12 60 yX12_refused, .instanceMethod yX12_refused, .selects RX12 yX12_refused yX12_refused, .initialized RX12, .code yX12_refused cX12_refused 2 (some .boolean), .fieldLink RX12 50 "FormatDumpModel" "fault" "I"] ++ wsX120)
def wsX12_none : List Cond := .code yX12_none cX12_none 2 (some .int) :: ([.fieldLink RX12 50 "FormatDumpModel" "fault" "I", .fieldLink RX12 64 "FormatDumpModel" "arguments" "I"] ++ wsX120)
def wsX12_room : List Cond := .code yX12_room cX12_room 2 none :: ([.fieldLink RX12 31 "FormatDumpModel" "room" "I", .fieldLink RX12 71 "FormatDumpModel" "outSize" "I", .methodLink RX12 67 yX12_isIn, .static yX12_isIn, .initialized RX12, .code yX12_isIn cX12_isIn 3 (some .boolean), .methodLink RX12 60 yX12_refused, .instanceMethod yX12_refused, .selects RX12 yX12_refused yX12_refused, .code yX12_refused cX12_refused 2 (some .boolean), .fieldLink RX12 50 "FormatDumpModel" "fault" "I"] ++ wsX120)
def wsX12_put : List Cond := .code yX12_put cX12_put 2 none :: ([.fieldLink RX12 71 "FormatDumpModel" "outSize" "I", .fieldLink RX12 31 "FormatDumpModel" "room" "I", .fieldLink RX12 74 "FormatDumpModel" "isFull" "Z", .fieldLink RX12 35 "FormatDumpModel" "out" "[C"] ++ wsX120)
def wsX12_begin : List Cond := .code yX12_begin cX12_begin 1 none :: ([.fieldLink RX12 71 "FormatDumpModel" "outSize" "I", .fieldLink RX12 74 "FormatDumpModel" "isFull" "Z"] ++ wsX120)
def wsX12_end : List Cond := .code yX12_end cX12_end 1 (some .int) :: ([.fieldLink RX12 74 "FormatDumpModel" "isFull" "Z", .fieldLink RX12 71 "FormatDumpModel" "outSize" "I"] ++ wsX120)
def wsX12_digit : List Cond := .code yX12_digit cX12_digit 2 (some .char) :: ([])
def wsX12_reckon : List Cond := .code yX12_reckon cX12_reckon 9 none :: ([.fieldLink RX12 78 "FormatDumpModel" "digitCount" "I", .constantLong RX12 81 (5), .fieldLink RX12 44 "FormatDumpModel" "digits" "[C", .methodLink RX12 83 yX12_digit, .static yX12_digit, .initialized RX12, .code yX12_digit cX12_digit 2 (some .char)] ++ wsX120)
def wsX12_fill : List Cond := .code yX12_fill cX12_fill 2 none :: ([.fieldLink RX12 78 "FormatDumpModel" "digitCount" "I", .fieldLink RX12 44 "FormatDumpModel" "digits" "[C"] ++ wsX120)
def wsX12_putDigits : List Cond := .code yX12_putDigits cX12_putDigits 2 none :: ([.fieldLink RX12 78 "FormatDumpModel" "digitCount" "I", .fieldLink RX12 44 "FormatDumpModel" "digits" "[C", .methodLink RX12 87 yX12_put, .instanceMethod yX12_put, .selects RX12 yX12_put yX12_put, .initialized RX12, .code yX12_put cX12_put 2 none, .fieldLink RX12 71 "FormatDumpModel" "outSize" "I", .fieldLink RX12 31 "FormatDumpModel" "room" "I", .fieldLink RX12 74 "FormatDumpModel" "isFull" "Z", .fieldLink RX12 35 "FormatDumpModel" "out" "[C"] ++ wsX120)
def wsX12_putMany : List Cond := .code yX12_putMany cX12_putMany 4 none :: ([.methodLink RX12 87 yX12_put, .instanceMethod yX12_put, .selects RX12 yX12_put yX12_put, .initialized RX12, .code yX12_put cX12_put 2 none, .fieldLink RX12 71 "FormatDumpModel" "outSize" "I", .fieldLink RX12 31 "FormatDumpModel" "room" "I", .fieldLink RX12 74 "FormatDumpModel" "isFull" "Z", .fieldLink RX12 35 "FormatDumpModel" "out" "[C"] ++ wsX120)
def wsX12_charAt : List Cond := .code yX12_charAt cX12_charAt 2 (some .char) :: ([.fieldLink RX12 53 "FormatDumpModel" "lineSize" "I", .fieldLink RX12 7 "FormatDumpModel" "line" "[C"] ++ wsX120)
def wsX12_isOctal : List Cond := .code yX12_isOctal cX12_isOctal 1 (some .boolean) :: ([])
def wsX12_escapeOf : List Cond := .code yX12_escapeOf cX12_escapeOf 1 (some .int) :: ([])
def wsX12_readTwo : List Cond := .code yX12_readTwo cX12_readTwo 3 (some .int) :: ([.fieldLink RX12 106 "FormatDumpModel" "at" "I", .methodLink RX12 109 yX12_charAt, .instanceMethod yX12_charAt, .selects RX12 yX12_charAt yX12_charAt, .initialized RX12, .code yX12_charAt cX12_charAt 2 (some .char), .fieldLink RX12 53 "FormatDumpModel" "lineSize" "I", .fieldLink RX12 7 "FormatDumpModel" "line" "[C"] ++ wsX120)
def wsX12_readDirective : List Cond := .code yX12_readDirective cX12_readDirective 4 (some .boolean) :: ([.fieldLink RX12 91 "FormatDumpModel" "minus" "Z", .fieldLink RX12 94 "FormatDumpModel" "plus" "Z", .fieldLink RX12 97 "FormatDumpModel" "blank" "Z", .fieldLink RX12 100 "FormatDumpModel" "sharp" "Z", .fieldLink RX12 103 "FormatDumpModel" "zero" "Z", .fieldLink RX12 106 "FormatDumpModel" "at" "I", .fieldLink RX12 113 "FormatDumpModel" "width" "I", .fieldLink RX12 120 "FormatDumpModel" "precision" "I", .fieldLink RX12 123 "FormatDumpModel" "bits" "I", .fieldLink RX12 126 "FormatDumpModel" "kind" "C", .methodLink RX12 109 yX12_charAt, .instanceMethod yX12_charAt, .selects RX12 yX12_charAt yX12_charAt, .initialized RX12, .code yX12_charAt cX12_charAt 2 (some .char), .fieldLink RX12 53 "FormatDumpModel" "lineSize" "I", .fieldLink RX12 7 "FormatDumpModel" "line" "[C", .methodLink RX12 116 yX12_readTwo, .instanceMethod yX12_readTwo, .selects RX12 yX12_readTwo yX12_readTwo, .code yX12_readTwo cX12_readTwo 3 (some .int)] ++ wsX120)
def wsX12_readEscape : List Cond := .code yX12_readEscape cX12_readEscape 4 (some .int) :: ([.fieldLink RX12 106 "FormatDumpModel" "at" "I", .methodLink RX12 109 yX12_charAt, .instanceMethod yX12_charAt, .selects RX12 yX12_charAt yX12_charAt, .initialized RX12, .code yX12_charAt cX12_charAt 2 (some .char), .fieldLink RX12 53 "FormatDumpModel" "lineSize" "I", .fieldLink RX12 7 "FormatDumpModel" "line" "[C", .methodLink RX12 130 yX12_isOctal, .static yX12_isOctal, .code yX12_isOctal cX12_isOctal 1 (some .boolean), .methodLink RX12 134 yX12_escapeOf, .static yX12_escapeOf, .code yX12_escapeOf cX12_escapeOf 1 (some .int)] ++ wsX120)
def wsX12_badAt_r1 : List Cond := [Cond.fieldLink RX12 106 "FormatDumpModel" "at" "I", Cond.fieldLink RX12 53 "FormatDumpModel" "lineSize" "I", Cond.fieldLink RX12 7 "FormatDumpModel" "line" "[C", Cond.methodLink RX12 138 yX12_readEscape, Cond.instanceMethod yX12_readEscape, Cond.selects RX12 yX12_readEscape yX12_readEscape, Cond.initialized RX12, Cond.code yX12_readEscape cX12_readEscape 4 (some .int), Cond.methodLink RX12 109 yX12_charAt, Cond.instanceMethod yX12_charAt, Cond.selects RX12 yX12_charAt yX12_charAt, Cond.code yX12_charAt cX12_charAt 2 (some .char), Cond.methodLink RX12 130 yX12_isOctal, Cond.static yX12_isOctal, Cond.code yX12_isOctal cX12_isOctal 1 (some .boolean), Cond.methodLink RX12 134 yX12_escapeOf, Cond.static yX12_escapeOf, Cond.code yX12_escapeOf cX12_escapeOf 1 (some .int), Cond.methodLink RX12 141 yX12_readDirective, Cond.instanceMethod yX12_readDirective, Cond.selects RX12 yX12_readDirective yX12_readDirective, Cond.code yX12_readDirective cX12_readDirective 4 (some .boolean), Cond.fieldLink RX12 91 "FormatDumpModel" "minus" "Z", Cond.fieldLink RX12 94 "FormatDumpModel" "plus" "Z"]
def wsX12_badAt_r2 : List Cond := [Cond.fieldLink RX12 97 "FormatDumpModel" "blank" "Z", Cond.fieldLink RX12 100 "FormatDumpModel" "sharp" "Z", Cond.fieldLink RX12 103 "FormatDumpModel" "zero" "Z", Cond.fieldLink RX12 113 "FormatDumpModel" "width" "I", Cond.fieldLink RX12 120 "FormatDumpModel" "precision" "I", Cond.fieldLink RX12 123 "FormatDumpModel" "bits" "I", Cond.fieldLink RX12 126 "FormatDumpModel" "kind" "C", Cond.methodLink RX12 116 yX12_readTwo, Cond.instanceMethod yX12_readTwo, Cond.selects RX12 yX12_readTwo yX12_readTwo, Cond.code yX12_readTwo cX12_readTwo 3 (some .int)]
def wsX12_badAt : List Cond := .code yX12_badAt cX12_badAt 4 (some .int) :: ((wsX12_badAt_r1 ++ wsX12_badAt_r2) ++ wsX120)
def wsX12_baseDigit : List Cond := .code yX12_baseDigit cX12_baseDigit 3 (some .int) :: ([])
def wsX12_textAt : List Cond := .code yX12_textAt cX12_textAt 3 (some .char) :: ([.fieldLink RX12 21 "FormatDumpModel" "textSize" "[I", .fieldLink RX12 25 "FormatDumpModel" "texts" "[C"] ++ wsX120)
def wsX12_textNumber : List Cond := .code yX12_textNumber cX12_textNumber 9 (some .long) :: ([.fieldLink RX12 21 "FormatDumpModel" "textSize" "[I", .fieldLink RX12 149 "FormatDumpModel" "oddNow" "I", .methodLink RX12 145 yX12_textAt, .instanceMethod yX12_textAt, .selects RX12 yX12_textAt yX12_textAt, .initialized RX12, .code yX12_textAt cX12_textAt 3 (some .char), .fieldLink RX12 25 "FormatDumpModel" "texts" "[C", .methodLink RX12 152 yX12_baseDigit, .static yX12_baseDigit, .code yX12_baseDigit cX12_baseDigit 3 (some .int)] ++ wsX120)
def wsX12_takeNumber : List Cond := .code yX12_takeNumber cX12_takeNumber 2 (some .long) :: ([.fieldLink RX12 156 "FormatDumpModel" "next" "I", .fieldLink RX12 64 "FormatDumpModel" "arguments" "I", .fieldLink RX12 13 "FormatDumpModel" "isText" "[Z", .fieldLink RX12 17 "FormatDumpModel" "numbers" "[J", .methodLink RX12 159 yX12_textNumber, .instanceMethod yX12_textNumber, .selects RX12 yX12_textNumber yX12_textNumber, .initialized RX12, .code yX12_textNumber cX12_textNumber 9 (some .long), .fieldLink RX12 21 "FormatDumpModel" "textSize" "[I", .fieldLink RX12 149 "FormatDumpModel" "oddNow" "I", .methodLink RX12 145 yX12_textAt, .instanceMethod yX12_textAt, .selects RX12 yX12_textAt yX12_textAt, .code yX12_textAt cX12_textAt 3 (some .char), .fieldLink RX12 25 "FormatDumpModel" "texts" "[C", .methodLink RX12 152 yX12_baseDigit, .static yX12_baseDigit, .code yX12_baseDigit cX12_baseDigit 3 (some .int)] ++ wsX120)
def wsX12_takeText : List Cond := .code yX12_takeText cX12_takeText 5 none :: ([.fieldLink RX12 163 "FormatDumpModel" "rowSize" "I", .fieldLink RX12 156 "FormatDumpModel" "next" "I", .fieldLink RX12 64 "FormatDumpModel" "arguments" "I", .fieldLink RX12 13 "FormatDumpModel" "isText" "[Z", .fieldLink RX12 21 "FormatDumpModel" "textSize" "[I", .fieldLink RX12 41 "FormatDumpModel" "row" "[C", .fieldLink RX12 25 "FormatDumpModel" "texts" "[C", .fieldLink RX12 17 "FormatDumpModel" "numbers" "[J", .fieldLink RX12 44 "FormatDumpModel" "digits" "[C", .fieldLink RX12 78 "FormatDumpModel" "digitCount" "I", .methodLink RX12 166 yX12_reckon, .instanceMethod yX12_reckon, .selects RX12 yX12_reckon yX12_reckon, .initialized RX12, .code yX12_reckon cX12_reckon 9 none, .constantLong RX12 81 (5), .methodLink RX12 83 yX12_digit, .static yX12_digit, .code yX12_digit cX12_digit 2 (some .char), .methodLink RX12 170 yX12_fill, .instanceMethod yX12_fill, .selects RX12 yX12_fill yX12_fill, .code yX12_fill cX12_fill 2 none] ++ wsX120)
def wsX12_cutTo : List Cond := .code yX12_cutTo cX12_cutTo 2 (some .int) :: ([.constantLong RX12 173 (-99), .constantLong RX12 175 (99)])
def wsX12_printWhole_r1 : List Cond := [Cond.fieldLink RX12 126 "FormatDumpModel" "kind" "C", Cond.fieldLink RX12 123 "FormatDumpModel" "bits" "I", Cond.fieldLink RX12 120 "FormatDumpModel" "precision" "I", Cond.fieldLink RX12 100 "FormatDumpModel" "sharp" "Z", Cond.fieldLink RX12 78 "FormatDumpModel" "digitCount" "I", Cond.fieldLink RX12 44 "FormatDumpModel" "digits" "[C", Cond.fieldLink RX12 94 "FormatDumpModel" "plus" "Z", Cond.fieldLink RX12 97 "FormatDumpModel" "blank" "Z", Cond.fieldLink RX12 113 "FormatDumpModel" "width" "I", Cond.fieldLink RX12 91 "FormatDumpModel" "minus" "Z", Cond.fieldLink RX12 103 "FormatDumpModel" "zero" "Z", Cond.methodLink RX12 177 yX12_takeNumber, Cond.instanceMethod yX12_takeNumber, Cond.selects RX12 yX12_takeNumber yX12_takeNumber, Cond.initialized RX12, Cond.code yX12_takeNumber cX12_takeNumber 2 (some .long), Cond.fieldLink RX12 156 "FormatDumpModel" "next" "I", Cond.fieldLink RX12 64 "FormatDumpModel" "arguments" "I", Cond.fieldLink RX12 13 "FormatDumpModel" "isText" "[Z", Cond.fieldLink RX12 17 "FormatDumpModel" "numbers" "[J", Cond.methodLink RX12 159 yX12_textNumber, Cond.instanceMethod yX12_textNumber, Cond.selects RX12 yX12_textNumber yX12_textNumber, Cond.code yX12_textNumber cX12_textNumber 9 (some .long)]
def wsX12_printWhole_r2 : List Cond := [Cond.fieldLink RX12 21 "FormatDumpModel" "textSize" "[I", Cond.fieldLink RX12 149 "FormatDumpModel" "oddNow" "I", Cond.methodLink RX12 145 yX12_textAt, Cond.instanceMethod yX12_textAt, Cond.selects RX12 yX12_textAt yX12_textAt, Cond.code yX12_textAt cX12_textAt 3 (some .char), Cond.fieldLink RX12 25 "FormatDumpModel" "texts" "[C", Cond.methodLink RX12 152 yX12_baseDigit, Cond.static yX12_baseDigit, Cond.code yX12_baseDigit cX12_baseDigit 3 (some .int), Cond.methodLink RX12 166 yX12_reckon, Cond.instanceMethod yX12_reckon, Cond.selects RX12 yX12_reckon yX12_reckon, Cond.code yX12_reckon cX12_reckon 9 none, Cond.constantLong RX12 81 (5), Cond.methodLink RX12 83 yX12_digit, Cond.static yX12_digit, Cond.code yX12_digit cX12_digit 2 (some .char), Cond.methodLink RX12 170 yX12_fill, Cond.instanceMethod yX12_fill, Cond.selects RX12 yX12_fill yX12_fill, Cond.code yX12_fill cX12_fill 2 none, Cond.methodLink RX12 181 yX12_putMany, Cond.instanceMethod yX12_putMany]
def wsX12_printWhole_r3 : List Cond := [Cond.selects RX12 yX12_putMany yX12_putMany, Cond.code yX12_putMany cX12_putMany 4 none, Cond.methodLink RX12 87 yX12_put, Cond.instanceMethod yX12_put, Cond.selects RX12 yX12_put yX12_put, Cond.code yX12_put cX12_put 2 none, Cond.fieldLink RX12 71 "FormatDumpModel" "outSize" "I", Cond.fieldLink RX12 31 "FormatDumpModel" "room" "I", Cond.fieldLink RX12 74 "FormatDumpModel" "isFull" "Z", Cond.fieldLink RX12 35 "FormatDumpModel" "out" "[C", Cond.methodLink RX12 185 yX12_putDigits, Cond.instanceMethod yX12_putDigits, Cond.selects RX12 yX12_putDigits yX12_putDigits, Cond.code yX12_putDigits cX12_putDigits 2 none]
def wsX12_printWhole : List Cond := .code yX12_printWhole cX12_printWhole 13 none :: ((wsX12_printWhole_r1 ++ (wsX12_printWhole_r2 ++ wsX12_printWhole_r3)) ++ wsX120)
def wsX12_printRow : List Cond := .code yX12_printRow cX12_printRow 3 none :: ([.fieldLink RX12 113 "FormatDumpModel" "width" "I", .fieldLink RX12 163 "FormatDumpModel" "rowSize" "I", .fieldLink RX12 91 "FormatDumpModel" "minus" "Z", .fieldLink RX12 41 "FormatDumpModel" "row" "[C", .methodLink RX12 181 yX12_putMany, .instanceMethod yX12_putMany, .selects RX12 yX12_putMany yX12_putMany, .initialized RX12, .code yX12_putMany cX12_putMany 4 none, .methodLink RX12 87 yX12_put, .instanceMethod yX12_put, .selects RX12 yX12_put yX12_put, .code yX12_put cX12_put 2 none, .fieldLink RX12 71 "FormatDumpModel" "outSize" "I", .fieldLink RX12 31 "FormatDumpModel" "room" "I", .fieldLink RX12 74 "FormatDumpModel" "isFull" "Z", .fieldLink RX12 35 "FormatDumpModel" "out" "[C"] ++ wsX120)
def wsX12_undo : List Cond := .code yX12_undo cX12_undo 8 none :: ([.fieldLink RX12 163 "FormatDumpModel" "rowSize" "I", .fieldLink RX12 41 "FormatDumpModel" "row" "[C", .fieldLink RX12 188 "FormatDumpModel" "ends" "Z", .methodLink RX12 130 yX12_isOctal, .static yX12_isOctal, .initialized RX12, .code yX12_isOctal cX12_isOctal 1 (some .boolean), .methodLink RX12 134 yX12_escapeOf, .static yX12_escapeOf, .code yX12_escapeOf cX12_escapeOf 1 (some .int)] ++ wsX120)
def wsX12_noArgument : List Cond := .code yX12_noArgument cX12_noArgument 1 (some .int) :: ([])
def wsX12_printDirective_r1 : List Cond := [Cond.fieldLink RX12 113 "FormatDumpModel" "width" "I", Cond.fieldLink RX12 91 "FormatDumpModel" "minus" "Z", Cond.fieldLink RX12 120 "FormatDumpModel" "precision" "I", Cond.fieldLink RX12 126 "FormatDumpModel" "kind" "C", Cond.fieldLink RX12 156 "FormatDumpModel" "next" "I", Cond.fieldLink RX12 64 "FormatDumpModel" "arguments" "I", Cond.fieldLink RX12 13 "FormatDumpModel" "isText" "[Z", Cond.fieldLink RX12 163 "FormatDumpModel" "rowSize" "I", Cond.fieldLink RX12 41 "FormatDumpModel" "row" "[C", Cond.constantLong RX12 198 (255), Cond.methodLink RX12 177 yX12_takeNumber, Cond.instanceMethod yX12_takeNumber, Cond.selects RX12 yX12_takeNumber yX12_takeNumber, Cond.initialized RX12, Cond.code yX12_takeNumber cX12_takeNumber 2 (some .long), Cond.fieldLink RX12 17 "FormatDumpModel" "numbers" "[J", Cond.methodLink RX12 159 yX12_textNumber, Cond.instanceMethod yX12_textNumber, Cond.selects RX12 yX12_textNumber yX12_textNumber, Cond.code yX12_textNumber cX12_textNumber 9 (some .long), Cond.fieldLink RX12 21 "FormatDumpModel" "textSize" "[I", Cond.fieldLink RX12 149 "FormatDumpModel" "oddNow" "I", Cond.methodLink RX12 145 yX12_textAt, Cond.instanceMethod yX12_textAt]
def wsX12_printDirective_r2 : List Cond := [Cond.selects RX12 yX12_textAt yX12_textAt, Cond.code yX12_textAt cX12_textAt 3 (some .char), Cond.fieldLink RX12 25 "FormatDumpModel" "texts" "[C", Cond.methodLink RX12 152 yX12_baseDigit, Cond.static yX12_baseDigit, Cond.code yX12_baseDigit cX12_baseDigit 3 (some .int), Cond.methodLink RX12 191 yX12_cutTo, Cond.static yX12_cutTo, Cond.code yX12_cutTo cX12_cutTo 2 (some .int), Cond.constantLong RX12 173 (-99), Cond.constantLong RX12 175 (99), Cond.methodLink RX12 195 yX12_takeText, Cond.instanceMethod yX12_takeText, Cond.selects RX12 yX12_takeText yX12_takeText, Cond.code yX12_takeText cX12_takeText 5 none, Cond.fieldLink RX12 44 "FormatDumpModel" "digits" "[C", Cond.fieldLink RX12 78 "FormatDumpModel" "digitCount" "I", Cond.methodLink RX12 166 yX12_reckon, Cond.instanceMethod yX12_reckon, Cond.selects RX12 yX12_reckon yX12_reckon, Cond.code yX12_reckon cX12_reckon 9 none, Cond.constantLong RX12 81 (5), Cond.methodLink RX12 83 yX12_digit, Cond.static yX12_digit]
def wsX12_printDirective_r3 : List Cond := [Cond.code yX12_digit cX12_digit 2 (some .char), Cond.methodLink RX12 170 yX12_fill, Cond.instanceMethod yX12_fill, Cond.selects RX12 yX12_fill yX12_fill, Cond.code yX12_fill cX12_fill 2 none, Cond.methodLink RX12 200 yX12_noArgument, Cond.instanceMethod yX12_noArgument, Cond.selects RX12 yX12_noArgument yX12_noArgument, Cond.code yX12_noArgument cX12_noArgument 1 (some .int), Cond.methodLink RX12 203 yX12_printRow, Cond.instanceMethod yX12_printRow, Cond.selects RX12 yX12_printRow yX12_printRow, Cond.code yX12_printRow cX12_printRow 3 none, Cond.methodLink RX12 181 yX12_putMany, Cond.instanceMethod yX12_putMany, Cond.selects RX12 yX12_putMany yX12_putMany, Cond.code yX12_putMany cX12_putMany 4 none, Cond.methodLink RX12 87 yX12_put, Cond.instanceMethod yX12_put, Cond.selects RX12 yX12_put yX12_put, Cond.code yX12_put cX12_put 2 none, Cond.fieldLink RX12 71 "FormatDumpModel" "outSize" "I", Cond.fieldLink RX12 31 "FormatDumpModel" "room" "I", Cond.fieldLink RX12 74 "FormatDumpModel" "isFull" "Z"]
def wsX12_printDirective_r4 : List Cond := [Cond.fieldLink RX12 35 "FormatDumpModel" "out" "[C", Cond.methodLink RX12 206 yX12_undo, Cond.instanceMethod yX12_undo, Cond.selects RX12 yX12_undo yX12_undo, Cond.code yX12_undo cX12_undo 8 none, Cond.fieldLink RX12 188 "FormatDumpModel" "ends" "Z", Cond.methodLink RX12 130 yX12_isOctal, Cond.static yX12_isOctal, Cond.code yX12_isOctal cX12_isOctal 1 (some .boolean), Cond.methodLink RX12 134 yX12_escapeOf, Cond.static yX12_escapeOf, Cond.code yX12_escapeOf cX12_escapeOf 1 (some .int), Cond.methodLink RX12 209 yX12_printWhole, Cond.instanceMethod yX12_printWhole, Cond.selects RX12 yX12_printWhole yX12_printWhole, Cond.code yX12_printWhole cX12_printWhole 13 none, Cond.fieldLink RX12 123 "FormatDumpModel" "bits" "I", Cond.fieldLink RX12 100 "FormatDumpModel" "sharp" "Z", Cond.fieldLink RX12 94 "FormatDumpModel" "plus" "Z", Cond.fieldLink RX12 97 "FormatDumpModel" "blank" "Z", Cond.fieldLink RX12 103 "FormatDumpModel" "zero" "Z", Cond.methodLink RX12 185 yX12_putDigits, Cond.instanceMethod yX12_putDigits, Cond.selects RX12 yX12_putDigits yX12_putDigits]
def wsX12_printDirective_r5 : List Cond := [Cond.code yX12_putDigits cX12_putDigits 2 none]
def wsX12_printDirective : List Cond := .code yX12_printDirective cX12_printDirective 3 none :: ((wsX12_printDirective_r1 ++ (wsX12_printDirective_r2 ++ (wsX12_printDirective_r3 ++ (wsX12_printDirective_r4 ++ wsX12_printDirective_r5)))) ++ wsX120)
def wsX12_printOnce_r1 : List Cond := [Cond.fieldLink RX12 106 "FormatDumpModel" "at" "I", Cond.fieldLink RX12 53 "FormatDumpModel" "lineSize" "I", Cond.fieldLink RX12 188 "FormatDumpModel" "ends" "Z", Cond.fieldLink RX12 7 "FormatDumpModel" "line" "[C", Cond.methodLink RX12 138 yX12_readEscape, Cond.instanceMethod yX12_readEscape, Cond.selects RX12 yX12_readEscape yX12_readEscape, Cond.initialized RX12, Cond.code yX12_readEscape cX12_readEscape 4 (some .int), Cond.methodLink RX12 109 yX12_charAt, Cond.instanceMethod yX12_charAt, Cond.selects RX12 yX12_charAt yX12_charAt, Cond.code yX12_charAt cX12_charAt 2 (some .char), Cond.methodLink RX12 130 yX12_isOctal, Cond.static yX12_isOctal, Cond.code yX12_isOctal cX12_isOctal 1 (some .boolean), Cond.methodLink RX12 134 yX12_escapeOf, Cond.static yX12_escapeOf, Cond.code yX12_escapeOf cX12_escapeOf 1 (some .int), Cond.methodLink RX12 87 yX12_put, Cond.instanceMethod yX12_put, Cond.selects RX12 yX12_put yX12_put, Cond.code yX12_put cX12_put 2 none, Cond.fieldLink RX12 71 "FormatDumpModel" "outSize" "I"]
def wsX12_printOnce_r2 : List Cond := [Cond.fieldLink RX12 31 "FormatDumpModel" "room" "I", Cond.fieldLink RX12 74 "FormatDumpModel" "isFull" "Z", Cond.fieldLink RX12 35 "FormatDumpModel" "out" "[C", Cond.methodLink RX12 141 yX12_readDirective, Cond.instanceMethod yX12_readDirective, Cond.selects RX12 yX12_readDirective yX12_readDirective, Cond.code yX12_readDirective cX12_readDirective 4 (some .boolean), Cond.fieldLink RX12 91 "FormatDumpModel" "minus" "Z", Cond.fieldLink RX12 94 "FormatDumpModel" "plus" "Z", Cond.fieldLink RX12 97 "FormatDumpModel" "blank" "Z", Cond.fieldLink RX12 100 "FormatDumpModel" "sharp" "Z", Cond.fieldLink RX12 103 "FormatDumpModel" "zero" "Z", Cond.fieldLink RX12 113 "FormatDumpModel" "width" "I", Cond.fieldLink RX12 120 "FormatDumpModel" "precision" "I", Cond.fieldLink RX12 123 "FormatDumpModel" "bits" "I", Cond.fieldLink RX12 126 "FormatDumpModel" "kind" "C", Cond.methodLink RX12 116 yX12_readTwo, Cond.instanceMethod yX12_readTwo, Cond.selects RX12 yX12_readTwo yX12_readTwo, Cond.code yX12_readTwo cX12_readTwo 3 (some .int), Cond.methodLink RX12 212 yX12_printDirective, Cond.instanceMethod yX12_printDirective, Cond.selects RX12 yX12_printDirective yX12_printDirective, Cond.code yX12_printDirective cX12_printDirective 3 none]
def wsX12_printOnce_r3 : List Cond := [Cond.fieldLink RX12 156 "FormatDumpModel" "next" "I", Cond.fieldLink RX12 64 "FormatDumpModel" "arguments" "I", Cond.fieldLink RX12 13 "FormatDumpModel" "isText" "[Z", Cond.fieldLink RX12 163 "FormatDumpModel" "rowSize" "I", Cond.fieldLink RX12 41 "FormatDumpModel" "row" "[C", Cond.constantLong RX12 198 (255), Cond.methodLink RX12 177 yX12_takeNumber, Cond.instanceMethod yX12_takeNumber, Cond.selects RX12 yX12_takeNumber yX12_takeNumber, Cond.code yX12_takeNumber cX12_takeNumber 2 (some .long), Cond.fieldLink RX12 17 "FormatDumpModel" "numbers" "[J", Cond.methodLink RX12 159 yX12_textNumber, Cond.instanceMethod yX12_textNumber, Cond.selects RX12 yX12_textNumber yX12_textNumber, Cond.code yX12_textNumber cX12_textNumber 9 (some .long), Cond.fieldLink RX12 21 "FormatDumpModel" "textSize" "[I", Cond.fieldLink RX12 149 "FormatDumpModel" "oddNow" "I", Cond.methodLink RX12 145 yX12_textAt, Cond.instanceMethod yX12_textAt, Cond.selects RX12 yX12_textAt yX12_textAt, Cond.code yX12_textAt cX12_textAt 3 (some .char), Cond.fieldLink RX12 25 "FormatDumpModel" "texts" "[C", Cond.methodLink RX12 152 yX12_baseDigit, Cond.static yX12_baseDigit]
def wsX12_printOnce_r4 : List Cond := [Cond.code yX12_baseDigit cX12_baseDigit 3 (some .int), Cond.methodLink RX12 191 yX12_cutTo, Cond.static yX12_cutTo, Cond.code yX12_cutTo cX12_cutTo 2 (some .int), Cond.constantLong RX12 173 (-99), Cond.constantLong RX12 175 (99), Cond.methodLink RX12 195 yX12_takeText, Cond.instanceMethod yX12_takeText, Cond.selects RX12 yX12_takeText yX12_takeText, Cond.code yX12_takeText cX12_takeText 5 none, Cond.fieldLink RX12 44 "FormatDumpModel" "digits" "[C", Cond.fieldLink RX12 78 "FormatDumpModel" "digitCount" "I", Cond.methodLink RX12 166 yX12_reckon, Cond.instanceMethod yX12_reckon, Cond.selects RX12 yX12_reckon yX12_reckon, Cond.code yX12_reckon cX12_reckon 9 none, Cond.constantLong RX12 81 (5), Cond.methodLink RX12 83 yX12_digit, Cond.static yX12_digit, Cond.code yX12_digit cX12_digit 2 (some .char), Cond.methodLink RX12 170 yX12_fill, Cond.instanceMethod yX12_fill, Cond.selects RX12 yX12_fill yX12_fill, Cond.code yX12_fill cX12_fill 2 none]
def wsX12_printOnce_r5 : List Cond := [Cond.methodLink RX12 200 yX12_noArgument, Cond.instanceMethod yX12_noArgument, Cond.selects RX12 yX12_noArgument yX12_noArgument, Cond.code yX12_noArgument cX12_noArgument 1 (some .int), Cond.methodLink RX12 203 yX12_printRow, Cond.instanceMethod yX12_printRow, Cond.selects RX12 yX12_printRow yX12_printRow, Cond.code yX12_printRow cX12_printRow 3 none, Cond.methodLink RX12 181 yX12_putMany, Cond.instanceMethod yX12_putMany, Cond.selects RX12 yX12_putMany yX12_putMany, Cond.code yX12_putMany cX12_putMany 4 none, Cond.methodLink RX12 206 yX12_undo, Cond.instanceMethod yX12_undo, Cond.selects RX12 yX12_undo yX12_undo, Cond.code yX12_undo cX12_undo 8 none, Cond.methodLink RX12 209 yX12_printWhole, Cond.instanceMethod yX12_printWhole, Cond.selects RX12 yX12_printWhole yX12_printWhole, Cond.code yX12_printWhole cX12_printWhole 13 none, Cond.methodLink RX12 185 yX12_putDigits, Cond.instanceMethod yX12_putDigits, Cond.selects RX12 yX12_putDigits yX12_putDigits, Cond.code yX12_putDigits cX12_putDigits 2 none]
def wsX12_printOnce : List Cond := .code yX12_printOnce cX12_printOnce 2 none :: ((wsX12_printOnce_r1 ++ (wsX12_printOnce_r2 ++ (wsX12_printOnce_r3 ++ (wsX12_printOnce_r4 ++ wsX12_printOnce_r5)))) ++ wsX120)
def wsX12_print_r1 : List Cond := [Cond.fieldLink RX12 50 "FormatDumpModel" "fault" "I", Cond.fieldLink RX12 38 "FormatDumpModel" "faultPlace" "I", Cond.fieldLink RX12 156 "FormatDumpModel" "next" "I", Cond.fieldLink RX12 188 "FormatDumpModel" "ends" "Z", Cond.fieldLink RX12 149 "FormatDumpModel" "oddNow" "I", Cond.fieldLink RX12 64 "FormatDumpModel" "arguments" "I", Cond.fieldLink RX12 74 "FormatDumpModel" "isFull" "Z", Cond.fieldLink RX12 224 "FormatDumpModel" "odds" "I", Cond.methodLink RX12 215 yX12_badAt, Cond.instanceMethod yX12_badAt, Cond.selects RX12 yX12_badAt yX12_badAt, Cond.initialized RX12, Cond.code yX12_badAt cX12_badAt 4 (some .int), Cond.fieldLink RX12 106 "FormatDumpModel" "at" "I", Cond.fieldLink RX12 53 "FormatDumpModel" "lineSize" "I", Cond.fieldLink RX12 7 "FormatDumpModel" "line" "[C", Cond.methodLink RX12 138 yX12_readEscape, Cond.instanceMethod yX12_readEscape, Cond.selects RX12 yX12_readEscape yX12_readEscape, Cond.code yX12_readEscape cX12_readEscape 4 (some .int), Cond.methodLink RX12 109 yX12_charAt, Cond.instanceMethod yX12_charAt, Cond.selects RX12 yX12_charAt yX12_charAt, Cond.code yX12_charAt cX12_charAt 2 (some .char)]
def wsX12_print_r2 : List Cond := [Cond.methodLink RX12 130 yX12_isOctal, Cond.static yX12_isOctal, Cond.code yX12_isOctal cX12_isOctal 1 (some .boolean), Cond.methodLink RX12 134 yX12_escapeOf, Cond.static yX12_escapeOf, Cond.code yX12_escapeOf cX12_escapeOf 1 (some .int), Cond.methodLink RX12 141 yX12_readDirective, Cond.instanceMethod yX12_readDirective, Cond.selects RX12 yX12_readDirective yX12_readDirective, Cond.code yX12_readDirective cX12_readDirective 4 (some .boolean), Cond.fieldLink RX12 91 "FormatDumpModel" "minus" "Z", Cond.fieldLink RX12 94 "FormatDumpModel" "plus" "Z", Cond.fieldLink RX12 97 "FormatDumpModel" "blank" "Z", Cond.fieldLink RX12 100 "FormatDumpModel" "sharp" "Z", Cond.fieldLink RX12 103 "FormatDumpModel" "zero" "Z", Cond.fieldLink RX12 113 "FormatDumpModel" "width" "I", Cond.fieldLink RX12 120 "FormatDumpModel" "precision" "I", Cond.fieldLink RX12 123 "FormatDumpModel" "bits" "I", Cond.fieldLink RX12 126 "FormatDumpModel" "kind" "C", Cond.methodLink RX12 116 yX12_readTwo, Cond.instanceMethod yX12_readTwo, Cond.selects RX12 yX12_readTwo yX12_readTwo, Cond.code yX12_readTwo cX12_readTwo 3 (some .int), Cond.methodLink RX12 218 yX12_begin]
def wsX12_print_r3 : List Cond := [Cond.instanceMethod yX12_begin, Cond.selects RX12 yX12_begin yX12_begin, Cond.code yX12_begin cX12_begin 1 none, Cond.fieldLink RX12 71 "FormatDumpModel" "outSize" "I", Cond.methodLink RX12 221 yX12_printOnce, Cond.instanceMethod yX12_printOnce, Cond.selects RX12 yX12_printOnce yX12_printOnce, Cond.code yX12_printOnce cX12_printOnce 2 none, Cond.methodLink RX12 87 yX12_put, Cond.instanceMethod yX12_put, Cond.selects RX12 yX12_put yX12_put, Cond.code yX12_put cX12_put 2 none, Cond.fieldLink RX12 31 "FormatDumpModel" "room" "I", Cond.fieldLink RX12 35 "FormatDumpModel" "out" "[C", Cond.methodLink RX12 212 yX12_printDirective, Cond.instanceMethod yX12_printDirective, Cond.selects RX12 yX12_printDirective yX12_printDirective, Cond.code yX12_printDirective cX12_printDirective 3 none, Cond.fieldLink RX12 13 "FormatDumpModel" "isText" "[Z", Cond.fieldLink RX12 163 "FormatDumpModel" "rowSize" "I", Cond.fieldLink RX12 41 "FormatDumpModel" "row" "[C", Cond.constantLong RX12 198 (255), Cond.methodLink RX12 177 yX12_takeNumber, Cond.instanceMethod yX12_takeNumber]
def wsX12_print_r4 : List Cond := [Cond.selects RX12 yX12_takeNumber yX12_takeNumber, Cond.code yX12_takeNumber cX12_takeNumber 2 (some .long), Cond.fieldLink RX12 17 "FormatDumpModel" "numbers" "[J", Cond.methodLink RX12 159 yX12_textNumber, Cond.instanceMethod yX12_textNumber, Cond.selects RX12 yX12_textNumber yX12_textNumber, Cond.code yX12_textNumber cX12_textNumber 9 (some .long), Cond.fieldLink RX12 21 "FormatDumpModel" "textSize" "[I", Cond.methodLink RX12 145 yX12_textAt, Cond.instanceMethod yX12_textAt, Cond.selects RX12 yX12_textAt yX12_textAt, Cond.code yX12_textAt cX12_textAt 3 (some .char), Cond.fieldLink RX12 25 "FormatDumpModel" "texts" "[C", Cond.methodLink RX12 152 yX12_baseDigit, Cond.static yX12_baseDigit, Cond.code yX12_baseDigit cX12_baseDigit 3 (some .int), Cond.methodLink RX12 191 yX12_cutTo, Cond.static yX12_cutTo, Cond.code yX12_cutTo cX12_cutTo 2 (some .int), Cond.constantLong RX12 173 (-99), Cond.constantLong RX12 175 (99), Cond.methodLink RX12 195 yX12_takeText, Cond.instanceMethod yX12_takeText, Cond.selects RX12 yX12_takeText yX12_takeText]
def wsX12_print_r5 : List Cond := [Cond.code yX12_takeText cX12_takeText 5 none, Cond.fieldLink RX12 44 "FormatDumpModel" "digits" "[C", Cond.fieldLink RX12 78 "FormatDumpModel" "digitCount" "I", Cond.methodLink RX12 166 yX12_reckon, Cond.instanceMethod yX12_reckon, Cond.selects RX12 yX12_reckon yX12_reckon, Cond.code yX12_reckon cX12_reckon 9 none, Cond.constantLong RX12 81 (5), Cond.methodLink RX12 83 yX12_digit, Cond.static yX12_digit, Cond.code yX12_digit cX12_digit 2 (some .char), Cond.methodLink RX12 170 yX12_fill, Cond.instanceMethod yX12_fill, Cond.selects RX12 yX12_fill yX12_fill, Cond.code yX12_fill cX12_fill 2 none, Cond.methodLink RX12 200 yX12_noArgument, Cond.instanceMethod yX12_noArgument, Cond.selects RX12 yX12_noArgument yX12_noArgument, Cond.code yX12_noArgument cX12_noArgument 1 (some .int), Cond.methodLink RX12 203 yX12_printRow, Cond.instanceMethod yX12_printRow, Cond.selects RX12 yX12_printRow yX12_printRow, Cond.code yX12_printRow cX12_printRow 3 none, Cond.methodLink RX12 181 yX12_putMany]
def wsX12_print_r6 : List Cond := [Cond.instanceMethod yX12_putMany, Cond.selects RX12 yX12_putMany yX12_putMany, Cond.code yX12_putMany cX12_putMany 4 none, Cond.methodLink RX12 206 yX12_undo, Cond.instanceMethod yX12_undo, Cond.selects RX12 yX12_undo yX12_undo, Cond.code yX12_undo cX12_undo 8 none, Cond.methodLink RX12 209 yX12_printWhole, Cond.instanceMethod yX12_printWhole, Cond.selects RX12 yX12_printWhole yX12_printWhole, Cond.code yX12_printWhole cX12_printWhole 13 none, Cond.methodLink RX12 185 yX12_putDigits, Cond.instanceMethod yX12_putDigits, Cond.selects RX12 yX12_putDigits yX12_putDigits, Cond.code yX12_putDigits cX12_putDigits 2 none, Cond.methodLink RX12 227 yX12_end, Cond.instanceMethod yX12_end, Cond.selects RX12 yX12_end yX12_end, Cond.code yX12_end cX12_end 1 (some .int)]
def wsX12_print : List Cond := .code yX12_print cX12_print 3 (some .int) :: ((wsX12_print_r1 ++ (wsX12_print_r2 ++ (wsX12_print_r3 ++ (wsX12_print_r4 ++ (wsX12_print_r5 ++ wsX12_print_r6))))) ++ wsX120)
def wsX12_odd : List Cond := .code yX12_odd cX12_odd 1 (some .int) :: ([.fieldLink RX12 50 "FormatDumpModel" "fault" "I", .fieldLink RX12 224 "FormatDumpModel" "odds" "I"] ++ wsX120)
def wsX12_feed : List Cond := .code yX12_feed cX12_feed 8 (some .int) :: ([.fieldLink RX12 230 "FormatDumpModel" "dataSize" "I", .fieldLink RX12 28 "FormatDumpModel" "bytes" "[I", .methodLink RX12 67 yX12_isIn, .static yX12_isIn, .initialized RX12, .code yX12_isIn cX12_isIn 3 (some .boolean), .methodLink RX12 60 yX12_refused, .instanceMethod yX12_refused, .selects RX12 yX12_refused yX12_refused, .code yX12_refused cX12_refused 2 (some .boolean), .fieldLink RX12 50 "FormatDumpModel" "fault" "I"] ++ wsX120)
def wsX12_cut : List Cond := .code yX12_cut cX12_cut 3 (some .int) :: ([.fieldLink RX12 230 "FormatDumpModel" "dataSize" "I", .methodLink RX12 67 yX12_isIn, .static yX12_isIn, .initialized RX12, .code yX12_isIn cX12_isIn 3 (some .boolean), .methodLink RX12 60 yX12_refused, .instanceMethod yX12_refused, .selects RX12 yX12_refused yX12_refused, .code yX12_refused cX12_refused 2 (some .boolean), .fieldLink RX12 50 "FormatDumpModel" "fault" "I"] ++ wsX120)
def wsX12_putAddress_r1 : List Cond := [Cond.methodLink RX12 166 yX12_reckon, Cond.instanceMethod yX12_reckon, Cond.selects RX12 yX12_reckon yX12_reckon, Cond.initialized RX12, Cond.code yX12_reckon cX12_reckon 9 none, Cond.fieldLink RX12 78 "FormatDumpModel" "digitCount" "I", Cond.constantLong RX12 81 (5), Cond.fieldLink RX12 44 "FormatDumpModel" "digits" "[C", Cond.methodLink RX12 83 yX12_digit, Cond.static yX12_digit, Cond.code yX12_digit cX12_digit 2 (some .char), Cond.methodLink RX12 170 yX12_fill, Cond.instanceMethod yX12_fill, Cond.selects RX12 yX12_fill yX12_fill, Cond.code yX12_fill cX12_fill 2 none, Cond.methodLink RX12 185 yX12_putDigits, Cond.instanceMethod yX12_putDigits, Cond.selects RX12 yX12_putDigits yX12_putDigits, Cond.code yX12_putDigits cX12_putDigits 2 none, Cond.methodLink RX12 87 yX12_put, Cond.instanceMethod yX12_put, Cond.selects RX12 yX12_put yX12_put, Cond.code yX12_put cX12_put 2 none, Cond.fieldLink RX12 71 "FormatDumpModel" "outSize" "I"]
def wsX12_putAddress_r2 : List Cond := [Cond.fieldLink RX12 31 "FormatDumpModel" "room" "I", Cond.fieldLink RX12 74 "FormatDumpModel" "isFull" "Z", Cond.fieldLink RX12 35 "FormatDumpModel" "out" "[C"]
def wsX12_putAddress : List Cond := .code yX12_putAddress cX12_putAddress 4 none :: ((wsX12_putAddress_r1 ++ wsX12_putAddress_r2) ++ wsX120)
def wsX12_index : List Cond := .code yX12_index cX12_index 1 (some .int) :: ([])
def wsX12_choose : List Cond := .code yX12_choose cX12_choose 5 (some .int) :: ([])
def wsX12_putShown_r1 : List Cond := [Cond.methodLink RX12 67 yX12_isIn, Cond.static yX12_isIn, Cond.initialized RX12, Cond.code yX12_isIn cX12_isIn 3 (some .boolean), Cond.methodLink RX12 181 yX12_putMany, Cond.instanceMethod yX12_putMany, Cond.selects RX12 yX12_putMany yX12_putMany, Cond.code yX12_putMany cX12_putMany 4 none, Cond.methodLink RX12 87 yX12_put, Cond.instanceMethod yX12_put, Cond.selects RX12 yX12_put yX12_put, Cond.code yX12_put cX12_put 2 none, Cond.fieldLink RX12 71 "FormatDumpModel" "outSize" "I", Cond.fieldLink RX12 31 "FormatDumpModel" "room" "I", Cond.fieldLink RX12 74 "FormatDumpModel" "isFull" "Z", Cond.fieldLink RX12 35 "FormatDumpModel" "out" "[C", Cond.methodLink RX12 166 yX12_reckon, Cond.instanceMethod yX12_reckon, Cond.selects RX12 yX12_reckon yX12_reckon, Cond.code yX12_reckon cX12_reckon 9 none, Cond.fieldLink RX12 78 "FormatDumpModel" "digitCount" "I", Cond.constantLong RX12 81 (5), Cond.fieldLink RX12 44 "FormatDumpModel" "digits" "[C", Cond.methodLink RX12 83 yX12_digit]
def wsX12_putShown_r2 : List Cond := [Cond.static yX12_digit, Cond.code yX12_digit cX12_digit 2 (some .char), Cond.methodLink RX12 170 yX12_fill, Cond.instanceMethod yX12_fill, Cond.selects RX12 yX12_fill yX12_fill, Cond.code yX12_fill cX12_fill 2 none, Cond.methodLink RX12 185 yX12_putDigits, Cond.instanceMethod yX12_putDigits, Cond.selects RX12 yX12_putDigits yX12_putDigits, Cond.code yX12_putDigits cX12_putDigits 2 none]
def wsX12_putShown : List Cond := .code yX12_putShown cX12_putShown 3 none :: ((wsX12_putShown_r1 ++ wsX12_putShown_r2) ++ wsX120)
def wsX12_putField_r1 : List Cond := [Cond.fieldLink RX12 230 "FormatDumpModel" "dataSize" "I", Cond.fieldLink RX12 28 "FormatDumpModel" "bytes" "[I", Cond.fieldLink RX12 78 "FormatDumpModel" "digitCount" "I", Cond.methodLink RX12 87 yX12_put, Cond.instanceMethod yX12_put, Cond.selects RX12 yX12_put yX12_put, Cond.initialized RX12, Cond.code yX12_put cX12_put 2 none, Cond.fieldLink RX12 71 "FormatDumpModel" "outSize" "I", Cond.fieldLink RX12 31 "FormatDumpModel" "room" "I", Cond.fieldLink RX12 74 "FormatDumpModel" "isFull" "Z", Cond.fieldLink RX12 35 "FormatDumpModel" "out" "[C", Cond.methodLink RX12 233 yX12_index, Cond.static yX12_index, Cond.code yX12_index cX12_index 1 (some .int), Cond.methodLink RX12 166 yX12_reckon, Cond.instanceMethod yX12_reckon, Cond.selects RX12 yX12_reckon yX12_reckon, Cond.code yX12_reckon cX12_reckon 9 none, Cond.constantLong RX12 81 (5), Cond.fieldLink RX12 44 "FormatDumpModel" "digits" "[C", Cond.methodLink RX12 83 yX12_digit, Cond.static yX12_digit, Cond.code yX12_digit cX12_digit 2 (some .char)]
def wsX12_putField_r2 : List Cond := [Cond.methodLink RX12 237 yX12_choose, Cond.static yX12_choose, Cond.code yX12_choose cX12_choose 5 (some .int), Cond.methodLink RX12 170 yX12_fill, Cond.instanceMethod yX12_fill, Cond.selects RX12 yX12_fill yX12_fill, Cond.code yX12_fill cX12_fill 2 none, Cond.methodLink RX12 185 yX12_putDigits, Cond.instanceMethod yX12_putDigits, Cond.selects RX12 yX12_putDigits yX12_putDigits, Cond.code yX12_putDigits cX12_putDigits 2 none, Cond.methodLink RX12 241 yX12_putShown, Cond.instanceMethod yX12_putShown, Cond.selects RX12 yX12_putShown yX12_putShown, Cond.code yX12_putShown cX12_putShown 3 none, Cond.methodLink RX12 67 yX12_isIn, Cond.static yX12_isIn, Cond.code yX12_isIn cX12_isIn 3 (some .boolean), Cond.methodLink RX12 181 yX12_putMany, Cond.instanceMethod yX12_putMany, Cond.selects RX12 yX12_putMany yX12_putMany, Cond.code yX12_putMany cX12_putMany 4 none]
def wsX12_putField : List Cond := .code yX12_putField cX12_putField 11 none :: ((wsX12_putField_r1 ++ wsX12_putField_r2) ++ wsX120)
def wsX12_isLikeBefore : List Cond := .code yX12_isLikeBefore cX12_isLikeBefore 4 (some .boolean) :: ([.fieldLink RX12 230 "FormatDumpModel" "dataSize" "I", .fieldLink RX12 28 "FormatDumpModel" "bytes" "[I"] ++ wsX120)
def wsX12_words_r1 : List Cond := [Cond.fieldLink RX12 230 "FormatDumpModel" "dataSize" "I", Cond.methodLink RX12 60 yX12_refused, Cond.instanceMethod yX12_refused, Cond.selects RX12 yX12_refused yX12_refused, Cond.initialized RX12, Cond.code yX12_refused cX12_refused 2 (some .boolean), Cond.fieldLink RX12 50 "FormatDumpModel" "fault" "I", Cond.methodLink RX12 218 yX12_begin, Cond.instanceMethod yX12_begin, Cond.selects RX12 yX12_begin yX12_begin, Cond.code yX12_begin cX12_begin 1 none, Cond.fieldLink RX12 71 "FormatDumpModel" "outSize" "I", Cond.fieldLink RX12 74 "FormatDumpModel" "isFull" "Z", Cond.methodLink RX12 244 yX12_isLikeBefore, Cond.instanceMethod yX12_isLikeBefore, Cond.selects RX12 yX12_isLikeBefore yX12_isLikeBefore, Cond.code yX12_isLikeBefore cX12_isLikeBefore 4 (some .boolean), Cond.fieldLink RX12 28 "FormatDumpModel" "bytes" "[I", Cond.methodLink RX12 87 yX12_put, Cond.instanceMethod yX12_put, Cond.selects RX12 yX12_put yX12_put, Cond.code yX12_put cX12_put 2 none, Cond.fieldLink RX12 31 "FormatDumpModel" "room" "I", Cond.fieldLink RX12 35 "FormatDumpModel" "out" "[C"]
def wsX12_words_r2 : List Cond := [Cond.methodLink RX12 247 yX12_putAddress, Cond.instanceMethod yX12_putAddress, Cond.selects RX12 yX12_putAddress yX12_putAddress, Cond.code yX12_putAddress cX12_putAddress 4 none, Cond.methodLink RX12 166 yX12_reckon, Cond.instanceMethod yX12_reckon, Cond.selects RX12 yX12_reckon yX12_reckon, Cond.code yX12_reckon cX12_reckon 9 none, Cond.fieldLink RX12 78 "FormatDumpModel" "digitCount" "I", Cond.constantLong RX12 81 (5), Cond.fieldLink RX12 44 "FormatDumpModel" "digits" "[C", Cond.methodLink RX12 83 yX12_digit, Cond.static yX12_digit, Cond.code yX12_digit cX12_digit 2 (some .char), Cond.methodLink RX12 170 yX12_fill, Cond.instanceMethod yX12_fill, Cond.selects RX12 yX12_fill yX12_fill, Cond.code yX12_fill cX12_fill 2 none, Cond.methodLink RX12 185 yX12_putDigits, Cond.instanceMethod yX12_putDigits, Cond.selects RX12 yX12_putDigits yX12_putDigits, Cond.code yX12_putDigits cX12_putDigits 2 none, Cond.methodLink RX12 251 yX12_putField, Cond.instanceMethod yX12_putField]
def wsX12_words_r3 : List Cond := [Cond.selects RX12 yX12_putField yX12_putField, Cond.code yX12_putField cX12_putField 11 none, Cond.methodLink RX12 233 yX12_index, Cond.static yX12_index, Cond.code yX12_index cX12_index 1 (some .int), Cond.methodLink RX12 237 yX12_choose, Cond.static yX12_choose, Cond.code yX12_choose cX12_choose 5 (some .int), Cond.methodLink RX12 241 yX12_putShown, Cond.instanceMethod yX12_putShown, Cond.selects RX12 yX12_putShown yX12_putShown, Cond.code yX12_putShown cX12_putShown 3 none, Cond.methodLink RX12 67 yX12_isIn, Cond.static yX12_isIn, Cond.code yX12_isIn cX12_isIn 3 (some .boolean), Cond.methodLink RX12 181 yX12_putMany, Cond.instanceMethod yX12_putMany, Cond.selects RX12 yX12_putMany yX12_putMany, Cond.code yX12_putMany cX12_putMany 4 none, Cond.methodLink RX12 227 yX12_end, Cond.instanceMethod yX12_end, Cond.selects RX12 yX12_end yX12_end, Cond.code yX12_end cX12_end 1 (some .int)]
def wsX12_words : List Cond := .code yX12_words cX12_words 9 (some .int) :: ((wsX12_words_r1 ++ (wsX12_words_r2 ++ wsX12_words_r3)) ++ wsX120)
def wsX12_isGroupEnd : List Cond := .code yX12_isGroupEnd cX12_isGroupEnd 3 (some .boolean) :: ([])
def wsX12_shown : List Cond := .code yX12_shown cX12_shown 1 (some .char) :: ([.methodLink RX12 67 yX12_isIn, .static yX12_isIn, .initialized RX12, .code yX12_isIn cX12_isIn 3 (some .boolean)])
def wsX12_pairs_r1 : List Cond := [Cond.fieldLink RX12 230 "FormatDumpModel" "dataSize" "I", Cond.fieldLink RX12 28 "FormatDumpModel" "bytes" "[I", Cond.methodLink RX12 67 yX12_isIn, Cond.static yX12_isIn, Cond.initialized RX12, Cond.code yX12_isIn cX12_isIn 3 (some .boolean), Cond.methodLink RX12 60 yX12_refused, Cond.instanceMethod yX12_refused, Cond.selects RX12 yX12_refused yX12_refused, Cond.code yX12_refused cX12_refused 2 (some .boolean), Cond.fieldLink RX12 50 "FormatDumpModel" "fault" "I", Cond.methodLink RX12 218 yX12_begin, Cond.instanceMethod yX12_begin, Cond.selects RX12 yX12_begin yX12_begin, Cond.code yX12_begin cX12_begin 1 none, Cond.fieldLink RX12 71 "FormatDumpModel" "outSize" "I", Cond.fieldLink RX12 74 "FormatDumpModel" "isFull" "Z", Cond.methodLink RX12 166 yX12_reckon, Cond.instanceMethod yX12_reckon, Cond.selects RX12 yX12_reckon yX12_reckon, Cond.code yX12_reckon cX12_reckon 9 none, Cond.fieldLink RX12 78 "FormatDumpModel" "digitCount" "I", Cond.constantLong RX12 81 (5), Cond.fieldLink RX12 44 "FormatDumpModel" "digits" "[C"]
def wsX12_pairs_r2 : List Cond := [Cond.methodLink RX12 83 yX12_digit, Cond.static yX12_digit, Cond.code yX12_digit cX12_digit 2 (some .char), Cond.methodLink RX12 170 yX12_fill, Cond.instanceMethod yX12_fill, Cond.selects RX12 yX12_fill yX12_fill, Cond.code yX12_fill cX12_fill 2 none, Cond.methodLink RX12 185 yX12_putDigits, Cond.instanceMethod yX12_putDigits, Cond.selects RX12 yX12_putDigits yX12_putDigits, Cond.code yX12_putDigits cX12_putDigits 2 none, Cond.methodLink RX12 87 yX12_put, Cond.instanceMethod yX12_put, Cond.selects RX12 yX12_put yX12_put, Cond.code yX12_put cX12_put 2 none, Cond.fieldLink RX12 31 "FormatDumpModel" "room" "I", Cond.fieldLink RX12 35 "FormatDumpModel" "out" "[C", Cond.methodLink RX12 255 yX12_isGroupEnd, Cond.static yX12_isGroupEnd, Cond.code yX12_isGroupEnd cX12_isGroupEnd 3 (some .boolean), Cond.methodLink RX12 258 yX12_shown, Cond.static yX12_shown, Cond.code yX12_shown cX12_shown 1 (some .char), Cond.methodLink RX12 227 yX12_end]
def wsX12_pairs_r3 : List Cond := [Cond.instanceMethod yX12_end, Cond.selects RX12 yX12_end yX12_end, Cond.code yX12_end cX12_end 1 (some .int)]
def wsX12_pairs : List Cond := .code yX12_pairs cX12_pairs 8 (some .int) :: ((wsX12_pairs_r1 ++ (wsX12_pairs_r2 ++ wsX12_pairs_r3)) ++ wsX120)
def wsX12_isNext : List Cond := .code yX12_isNext cX12_isNext 2 (some .boolean) :: ([.fieldLink RX12 261 "FormatDumpModel" "read" "I", .fieldLink RX12 71 "FormatDumpModel" "outSize" "I", .fieldLink RX12 35 "FormatDumpModel" "out" "[C"] ++ wsX120)
def wsX12_hexAt : List Cond := .code yX12_hexAt cX12_hexAt 2 (some .int) :: ([.fieldLink RX12 71 "FormatDumpModel" "outSize" "I", .fieldLink RX12 35 "FormatDumpModel" "out" "[C", .methodLink RX12 152 yX12_baseDigit, .static yX12_baseDigit, .initialized RX12, .code yX12_baseDigit cX12_baseDigit 3 (some .int)] ++ wsX120)
def wsX12_readLine_r1 : List Cond := [Cond.fieldLink RX12 264 "FormatDumpModel" "foundSize" "I", Cond.fieldLink RX12 261 "FormatDumpModel" "read" "I", Cond.fieldLink RX12 47 "FormatDumpModel" "found" "[I", Cond.fieldLink RX12 71 "FormatDumpModel" "outSize" "I", Cond.methodLink RX12 267 yX12_hexAt, Cond.instanceMethod yX12_hexAt, Cond.selects RX12 yX12_hexAt yX12_hexAt, Cond.initialized RX12, Cond.code yX12_hexAt cX12_hexAt 2 (some .int), Cond.fieldLink RX12 35 "FormatDumpModel" "out" "[C", Cond.methodLink RX12 152 yX12_baseDigit, Cond.static yX12_baseDigit, Cond.code yX12_baseDigit cX12_baseDigit 3 (some .int), Cond.methodLink RX12 270 yX12_isNext, Cond.instanceMethod yX12_isNext, Cond.selects RX12 yX12_isNext yX12_isNext, Cond.code yX12_isNext cX12_isNext 2 (some .boolean), Cond.methodLink RX12 255 yX12_isGroupEnd, Cond.static yX12_isGroupEnd, Cond.code yX12_isGroupEnd cX12_isGroupEnd 3 (some .boolean), Cond.methodLink RX12 258 yX12_shown, Cond.static yX12_shown, Cond.code yX12_shown cX12_shown 1 (some .char), Cond.methodLink RX12 67 yX12_isIn]
def wsX12_readLine_r2 : List Cond := [Cond.static yX12_isIn, Cond.code yX12_isIn cX12_isIn 3 (some .boolean)]
def wsX12_readLine : List Cond := .code yX12_readLine cX12_readLine 8 (some .boolean) :: ((wsX12_readLine_r1 ++ wsX12_readLine_r2) ++ wsX120)
def wsX12_back_r1 : List Cond := [Cond.fieldLink RX12 264 "FormatDumpModel" "foundSize" "I", Cond.fieldLink RX12 261 "FormatDumpModel" "read" "I", Cond.fieldLink RX12 38 "FormatDumpModel" "faultPlace" "I", Cond.fieldLink RX12 71 "FormatDumpModel" "outSize" "I", Cond.fieldLink RX12 230 "FormatDumpModel" "dataSize" "I", Cond.fieldLink RX12 28 "FormatDumpModel" "bytes" "[I", Cond.fieldLink RX12 47 "FormatDumpModel" "found" "[I", Cond.methodLink RX12 67 yX12_isIn, Cond.static yX12_isIn, Cond.initialized RX12, Cond.code yX12_isIn cX12_isIn 3 (some .boolean), Cond.methodLink RX12 60 yX12_refused, Cond.instanceMethod yX12_refused, Cond.selects RX12 yX12_refused yX12_refused, Cond.code yX12_refused cX12_refused 2 (some .boolean), Cond.fieldLink RX12 50 "FormatDumpModel" "fault" "I", Cond.methodLink RX12 273 yX12_readLine, Cond.instanceMethod yX12_readLine, Cond.selects RX12 yX12_readLine yX12_readLine, Cond.code yX12_readLine cX12_readLine 8 (some .boolean), Cond.methodLink RX12 267 yX12_hexAt, Cond.instanceMethod yX12_hexAt, Cond.selects RX12 yX12_hexAt yX12_hexAt, Cond.code yX12_hexAt cX12_hexAt 2 (some .int)]
def wsX12_back_r2 : List Cond := [Cond.fieldLink RX12 35 "FormatDumpModel" "out" "[C", Cond.methodLink RX12 152 yX12_baseDigit, Cond.static yX12_baseDigit, Cond.code yX12_baseDigit cX12_baseDigit 3 (some .int), Cond.methodLink RX12 270 yX12_isNext, Cond.instanceMethod yX12_isNext, Cond.selects RX12 yX12_isNext yX12_isNext, Cond.code yX12_isNext cX12_isNext 2 (some .boolean), Cond.methodLink RX12 255 yX12_isGroupEnd, Cond.static yX12_isGroupEnd, Cond.code yX12_isGroupEnd cX12_isGroupEnd 3 (some .boolean), Cond.methodLink RX12 258 yX12_shown, Cond.static yX12_shown, Cond.code yX12_shown cX12_shown 1 (some .char)]
def wsX12_back : List Cond := .code yX12_back cX12_back 4 (some .int) :: ((wsX12_back_r1 ++ wsX12_back_r2) ++ wsX120)
def wsX12_patch : List Cond := .code yX12_patch cX12_patch 4 (some .int) :: ([.fieldLink RX12 71 "FormatDumpModel" "outSize" "I", .fieldLink RX12 35 "FormatDumpModel" "out" "[C", .methodLink RX12 67 yX12_isIn, .static yX12_isIn, .initialized RX12, .code yX12_isIn cX12_isIn 3 (some .boolean), .methodLink RX12 60 yX12_refused, .instanceMethod yX12_refused, .selects RX12 yX12_refused yX12_refused, .code yX12_refused cX12_refused 2 (some .boolean), .fieldLink RX12 50 "FormatDumpModel" "fault" "I"] ++ wsX120)
def wsX12_trim : List Cond := .code yX12_trim cX12_trim 3 (some .int) :: ([.fieldLink RX12 71 "FormatDumpModel" "outSize" "I", .methodLink RX12 67 yX12_isIn, .static yX12_isIn, .initialized RX12, .code yX12_isIn cX12_isIn 3 (some .boolean), .methodLink RX12 60 yX12_refused, .instanceMethod yX12_refused, .selects RX12 yX12_refused yX12_refused, .code yX12_refused cX12_refused 2 (some .boolean), .fieldLink RX12 50 "FormatDumpModel" "fault" "I"] ++ wsX120)
def wsX12_place : List Cond := .code yX12_place cX12_place 1 (some .int) :: ([.fieldLink RX12 50 "FormatDumpModel" "fault" "I", .fieldLink RX12 38 "FormatDumpModel" "faultPlace" "I"] ++ wsX120)
def wsX12_output : List Cond := .code yX12_output cX12_output 2 (some .int) :: ([.fieldLink RX12 50 "FormatDumpModel" "fault" "I", .fieldLink RX12 71 "FormatDumpModel" "outSize" "I", .fieldLink RX12 35 "FormatDumpModel" "out" "[C", .methodLink RX12 67 yX12_isIn, .static yX12_isIn, .initialized RX12, .code yX12_isIn cX12_isIn 3 (some .boolean)] ++ wsX120)
def wsX12_data : List Cond := .code yX12_data cX12_data 2 (some .int) :: ([.fieldLink RX12 50 "FormatDumpModel" "fault" "I", .fieldLink RX12 230 "FormatDumpModel" "dataSize" "I", .fieldLink RX12 28 "FormatDumpModel" "bytes" "[I", .methodLink RX12 67 yX12_isIn, .static yX12_isIn, .initialized RX12, .code yX12_isIn cX12_isIn 3 (some .boolean)] ++ wsX120)
def wsJ9_max_7cf53 : List Cond := .code yJ9_max_7cf53 cJ9_max_7cf53 2 (some .int) :: ([])
def wsJ9_max_f86c9 : List Cond := .code yJ9_max_f86c9 cJ9_max_f86c9 4 (some .long) :: ([])
def wsJ9_min_7cf53 : List Cond := .code yJ9_min_7cf53 cJ9_min_7cf53 2 (some .int) :: ([])
def wsJ9_min_f86c9 : List Cond := .code yJ9_min_f86c9 cJ9_min_f86c9 4 (some .long) :: ([])
def wsL_type_r1 : List Cond := [Cond.classLink RL 13 "java/lang/IllegalStateException", Cond.methodLink RL 7 yX11_type, Cond.instanceMethod yX11_type, Cond.selects RX11 yX11_type yX11_type, Cond.initialized RX11, Cond.code yX11_type cX11_type 7 (some .int), Cond.classLink RX11 83 "java/lang/IllegalStateException", Cond.initialized "java/lang/IllegalStateException", Cond.fieldLink RX11 17 "FormatDump" "line" "LFormatDump$Row;", Cond.methodLink RX11 75 yX11_charactersIn, Cond.static yX11_charactersIn, Cond.code yX11_charactersIn cX11_charactersIn 3 (some .int), Cond.methodLink RX11 186 yX11_byteOf, Cond.static yX11_byteOf, Cond.code yX11_byteOf cX11_byteOf 2 (some .int), Cond.methodLink RX11 79 yX9_size, Cond.instanceMethod yX9_size, Cond.selects RX9 yX9_size yX9_size, Cond.initialized RX9, Cond.code yX9_size cX9_size 1 (some .int), Cond.fieldLink RX9 19 "FormatDump$Row" "size" "I", Cond.methodLink RX11 86 yX11_typeWord, Cond.instanceMethod yX11_typeWord, Cond.selects RX11 yX11_typeWord yX11_typeWord]
def wsL_type_r2 : List Cond := [Cond.code yX11_typeWord cX11_typeWord 4 none, Cond.methodLink RX11 189 yX9_add, Cond.instanceMethod yX9_add, Cond.selects RX9 yX9_add yX9_add, Cond.code yX9_add cX9_add 2 none, Cond.fieldLink RX9 15 "FormatDump$Row" "limit" "I", Cond.fieldLink RX9 9 "FormatDump$Row" "cells" "[I", Cond.fieldLink RX9 22 "FormatDump$Row" "over" "Z"]
def wsL_type : List Cond := .codeWith yL_type cL_type 8 (some .int) [(0, 16, 19, 13)] :: ((wsL_type_r1 ++ wsL_type_r2) ++ wsX110 ++ wsX90 ++ (vx_at0 RX11 85 "java/lang/IllegalStateException" ["java/lang/RuntimeException", "java/lang/Exception"]).filter goodWord)
def wsL_number : List Cond := .codeWith yL_number cL_number 5 (some .int) [(0, 9, 12, 13)] :: ([.classLink RL 13 "java/lang/IllegalStateException", .methodLink RL 15 yX11_number, .instanceMethod yX11_number, .selects RX11 yX11_number yX11_number, .initialized RX11, .code yX11_number cX11_number 3 (some .int), .classLink RX11 83 "java/lang/IllegalStateException", .initialized "java/lang/IllegalStateException", .fieldLink RX11 30 "FormatDump" "arguments" "LFormatDump$Arguments;", .methodLink RX11 92 yX1_count, .instanceMethod yX1_count, .selects RX1 yX1_count yX1_count, .initialized RX1, .code yX1_count cX1_count 1 (some .int), .fieldLink RX1 25 "FormatDump$Arguments" "count" "I", .methodLink RX11 95 yX1_addNumber, .instanceMethod yX1_addNumber, .selects RX1 yX1_addNumber yX1_addNumber, .code yX1_addNumber cX1_addNumber 3 none, .fieldLink RX1 11 "FormatDump$Arguments" "all" "[LFormatDump$Argument;", .fieldLink RX1 35 "FormatDump$Argument" "isText" "Z", .fieldLink RX1 39 "FormatDump$Argument" "value" "J"] ++ wsX110 ++ wsX10 ++ wsX00 ++ (vx_at0 RX11 85 "java/lang/IllegalStateException" ["java/lang/RuntimeException", "java/lang/Exception"]).filter goodWord)
def wsL_text_r1 : List Cond := [Cond.classLink RL 13 "java/lang/IllegalStateException", Cond.methodLink RL 19 yX11_text, Cond.instanceMethod yX11_text, Cond.selects RX11 yX11_text yX11_text, Cond.initialized RX11, Cond.code yX11_text cX11_text 1 (some .int), Cond.classLink RX11 83 "java/lang/IllegalStateException", Cond.initialized "java/lang/IllegalStateException", Cond.fieldLink RX11 30 "FormatDump" "arguments" "LFormatDump$Arguments;", Cond.fieldLink RX11 17 "FormatDump" "line" "LFormatDump$Row;", Cond.methodLink RX11 92 yX1_count, Cond.instanceMethod yX1_count, Cond.selects RX1 yX1_count yX1_count, Cond.initialized RX1, Cond.code yX1_count cX1_count 1 (some .int), Cond.fieldLink RX1 25 "FormatDump$Arguments" "count" "I", Cond.methodLink RX11 99 yX1_addText, Cond.instanceMethod yX1_addText, Cond.selects RX1 yX1_addText yX1_addText, Cond.code yX1_addText cX1_addText 2 none, Cond.fieldLink RX1 11 "FormatDump$Arguments" "all" "[LFormatDump$Argument;", Cond.fieldLink RX1 35 "FormatDump$Argument" "isText" "Z", Cond.fieldLink RX1 43 "FormatDump$Argument" "characters" "LFormatDump$Row;", Cond.methodLink RX1 47 yX9_copyOf]
def wsL_text_r2 : List Cond := [Cond.instanceMethod yX9_copyOf, Cond.selects RX9 yX9_copyOf yX9_copyOf, Cond.initialized RX9, Cond.code yX9_copyOf cX9_copyOf 3 none, Cond.methodLink RX9 39 yX9_clear, Cond.instanceMethod yX9_clear, Cond.selects RX9 yX9_clear yX9_clear, Cond.code yX9_clear cX9_clear 1 none, Cond.fieldLink RX9 19 "FormatDump$Row" "size" "I", Cond.fieldLink RX9 22 "FormatDump$Row" "over" "Z", Cond.methodLink RX9 42 yX9_size, Cond.instanceMethod yX9_size, Cond.selects RX9 yX9_size yX9_size, Cond.code yX9_size cX9_size 1 (some .int), Cond.methodLink RX9 45 yX9_at, Cond.instanceMethod yX9_at, Cond.selects RX9 yX9_at yX9_at, Cond.code yX9_at cX9_at 2 (some .int), Cond.fieldLink RX9 9 "FormatDump$Row" "cells" "[I", Cond.methodLink RX9 35 yX9_add, Cond.instanceMethod yX9_add, Cond.selects RX9 yX9_add yX9_add, Cond.code yX9_add cX9_add 2 none, Cond.fieldLink RX9 15 "FormatDump$Row" "limit" "I"]
def wsL_text_r3 : List Cond := [Cond.methodLink RX11 89 yX9_clear]
def wsL_text : List Cond := .codeWith yL_text cL_text 3 (some .int) [(0, 8, 11, 13)] :: ((wsL_text_r1 ++ (wsL_text_r2 ++ wsL_text_r3)) ++ wsX110 ++ wsX10 ++ wsX00 ++ wsX90 ++ (vx_at0 RX11 85 "java/lang/IllegalStateException" ["java/lang/RuntimeException", "java/lang/Exception"]).filter goodWord)
def wsL_room_r1 : List Cond := [Cond.classLink RL 27 "java/lang/IllegalArgumentException", Cond.methodLink RL 23 yX11_room, Cond.instanceMethod yX11_room, Cond.selects RX11 yX11_room yX11_room, Cond.initialized RX11, Cond.code yX11_room cX11_room 2 none, Cond.classLink RX11 103 "java/lang/IllegalArgumentException", Cond.initialized "java/lang/IllegalArgumentException", Cond.fieldLink RX11 21 "FormatDump" "page" "LFormatDump$Row;", Cond.methodLink RX11 106 yX9_limitTo, Cond.instanceMethod yX9_limitTo, Cond.selects RX9 yX9_limitTo yX9_limitTo, Cond.initialized RX9, Cond.code yX9_limitTo cX9_limitTo 2 none, Cond.fieldLink RX9 9 "FormatDump$Row" "cells" "[I", Cond.methodLink RX9 26 Lib.Math.min.name, Cond.static Lib.Math.min.name, Cond.initialized "java/lang/Math", Cond.code Lib.Math.min.name Lib.Math.min.code 2 (some .int), Cond.methodLink RX9 32 Lib.Math.max.name, Cond.static Lib.Math.max.name, Cond.code Lib.Math.max.name Lib.Math.max.code 2 (some .int), Cond.fieldLink RX9 15 "FormatDump$Row" "limit" "I", Cond.methodLink RX11 89 yX9_clear]
def wsL_room_r2 : List Cond := [Cond.instanceMethod yX9_clear, Cond.selects RX9 yX9_clear yX9_clear, Cond.code yX9_clear cX9_clear 1 none, Cond.fieldLink RX9 19 "FormatDump$Row" "size" "I", Cond.fieldLink RX9 22 "FormatDump$Row" "over" "Z"]
def wsL_room : List Cond := .codeWith yL_room cL_room 3 (some .int) [(0, 5, 8, 27)] :: ((wsL_room_r1 ++ wsL_room_r2) ++ wsX110 ++ wsX90 ++ (vx_at0 RX11 105 "java/lang/IllegalArgumentException" ["java/lang/RuntimeException", "java/lang/Exception"]).filter goodWord)
def wsL_feed_r1 : List Cond := [Cond.classLink RL 27 "java/lang/IllegalArgumentException", Cond.classLink RL 13 "java/lang/IllegalStateException", Cond.methodLink RL 29 yX11_feed, Cond.instanceMethod yX11_feed, Cond.selects RX11 yX11_feed yX11_feed, Cond.initialized RX11, Cond.code yX11_feed cX11_feed 6 (some .int), Cond.classLink RX11 103 "java/lang/IllegalArgumentException", Cond.initialized "java/lang/IllegalArgumentException", Cond.classLink RX11 83 "java/lang/IllegalStateException", Cond.initialized "java/lang/IllegalStateException", Cond.fieldLink RX11 24 "FormatDump" "bytes" "LFormatDump$Row;", Cond.methodLink RX11 79 yX9_size, Cond.instanceMethod yX9_size, Cond.selects RX9 yX9_size yX9_size, Cond.initialized RX9, Cond.code yX9_size cX9_size 1 (some .int), Cond.fieldLink RX9 19 "FormatDump$Row" "size" "I", Cond.methodLink RX11 131 yX11_feedWord, Cond.instanceMethod yX11_feedWord, Cond.selects RX11 yX11_feedWord yX11_feedWord, Cond.code yX11_feedWord cX11_feedWord 4 none, Cond.methodLink RX11 186 yX11_byteOf, Cond.static yX11_byteOf]
def wsL_feed_r2 : List Cond := [Cond.code yX11_byteOf cX11_byteOf 2 (some .int), Cond.methodLink RX11 189 yX9_add, Cond.instanceMethod yX9_add, Cond.selects RX9 yX9_add yX9_add, Cond.code yX9_add cX9_add 2 none, Cond.fieldLink RX9 15 "FormatDump$Row" "limit" "I", Cond.fieldLink RX9 9 "FormatDump$Row" "cells" "[I", Cond.fieldLink RX9 22 "FormatDump$Row" "over" "Z"]
def wsL_feed : List Cond := .codeWith yL_feed cL_feed 8 (some .int) [(0, 16, 19, 27), (0, 16, 23, 13)] :: ((wsL_feed_r1 ++ wsL_feed_r2) ++ wsX110 ++ wsX90 ++ (vx_at0 RX11 105 "java/lang/IllegalArgumentException" ["java/lang/RuntimeException", "java/lang/Exception"]).filter goodWord ++ (vx_at0 RX11 85 "java/lang/IllegalStateException" ["java/lang/RuntimeException", "java/lang/Exception"]).filter goodWord)
def wsL_cut_r1 : List Cond := [Cond.classLink RL 27 "java/lang/IllegalArgumentException", Cond.methodLink RL 32 yX11_cut, Cond.instanceMethod yX11_cut, Cond.selects RX11 yX11_cut yX11_cut, Cond.initialized RX11, Cond.code yX11_cut cX11_cut 2 (some .int), Cond.classLink RX11 103 "java/lang/IllegalArgumentException", Cond.initialized "java/lang/IllegalArgumentException", Cond.fieldLink RX11 24 "FormatDump" "bytes" "LFormatDump$Row;", Cond.methodLink RX11 79 yX9_size, Cond.instanceMethod yX9_size, Cond.selects RX9 yX9_size yX9_size, Cond.initialized RX9, Cond.code yX9_size cX9_size 1 (some .int), Cond.fieldLink RX9 19 "FormatDump$Row" "size" "I", Cond.methodLink RX11 135 yX9_keepFirst, Cond.instanceMethod yX9_keepFirst, Cond.selects RX9 yX9_keepFirst yX9_keepFirst, Cond.code yX9_keepFirst cX9_keepFirst 4 (some .int), Cond.methodLink RX9 26 Lib.Math.min.name, Cond.static Lib.Math.min.name, Cond.initialized "java/lang/Math", Cond.code Lib.Math.min.name Lib.Math.min.code 2 (some .int), Cond.methodLink RX9 32 Lib.Math.max.name]
def wsL_cut_r2 : List Cond := [Cond.static Lib.Math.max.name, Cond.code Lib.Math.max.name Lib.Math.max.code 2 (some .int)]
def wsL_cut : List Cond := .codeWith yL_cut cL_cut 4 (some .int) [(0, 9, 12, 27)] :: ((wsL_cut_r1 ++ wsL_cut_r2) ++ wsX110 ++ wsX90 ++ (vx_at0 RX11 105 "java/lang/IllegalArgumentException" ["java/lang/RuntimeException", "java/lang/Exception"]).filter goodWord)
def wsL_words_r1 : List Cond := [Cond.classLink RL 27 "java/lang/IllegalArgumentException", Cond.methodLink RL 36 yX11_words, Cond.instanceMethod yX11_words, Cond.selects RX11 yX11_words yX11_words, Cond.initialized RX11, Cond.code yX11_words cX11_words 5 (some .int), Cond.classLink RX11 103 "java/lang/IllegalArgumentException", Cond.initialized "java/lang/IllegalArgumentException", Cond.fieldLink RX11 21 "FormatDump" "page" "LFormatDump$Row;", Cond.fieldLink RX11 48 "FormatDump" "wordDump" "LFormatDump$WordDump;", Cond.methodLink RX11 138 yX11_isAddressBase, Cond.static yX11_isAddressBase, Cond.code yX11_isAddressBase cX11_isAddressBase 1 (some .boolean), Cond.methodLink RX11 142 yX11_isWord, Cond.static yX11_isWord, Cond.code yX11_isWord cX11_isWord 3 (some .boolean), Cond.methodLink RX11 89 yX9_clear, Cond.instanceMethod yX9_clear, Cond.selects RX9 yX9_clear yX9_clear, Cond.initialized RX9, Cond.code yX9_clear cX9_clear 1 none, Cond.fieldLink RX9 19 "FormatDump$Row" "size" "I", Cond.fieldLink RX9 22 "FormatDump$Row" "over" "Z", Cond.methodLink RX11 146 yX10_dump]
def wsL_words_r2 : List Cond := [Cond.instanceMethod yX10_dump, Cond.selects RX10 yX10_dump yX10_dump, Cond.initialized RX10, Cond.code yX10_dump cX10_dump 7 none, Cond.fieldLink RX10 30 "FormatDump$WordDump" "addressBase" "I", Cond.fieldLink RX10 34 "FormatDump$WordDump" "letter" "C", Cond.fieldLink RX10 38 "FormatDump$WordDump" "wordSize" "I", Cond.fieldLink RX10 15 "FormatDump$WordDump" "bytes" "LFormatDump$Row;", Cond.fieldLink RX10 9 "FormatDump$WordDump" "page" "LFormatDump$Row;", Cond.methodLink RX10 41 yX9_size, Cond.instanceMethod yX9_size, Cond.selects RX9 yX9_size yX9_size, Cond.code yX9_size cX9_size 1 (some .int), Cond.methodLink RX10 45 yX10_isLikeBefore, Cond.instanceMethod yX10_isLikeBefore, Cond.selects RX10 yX10_isLikeBefore yX10_isLikeBefore, Cond.code yX10_isLikeBefore cX10_isLikeBefore 3 (some .boolean), Cond.methodLink RX10 58 yX9_at, Cond.instanceMethod yX9_at, Cond.selects RX9 yX9_at yX9_at, Cond.code yX9_at cX9_at 2 (some .int), Cond.fieldLink RX9 9 "FormatDump$Row" "cells" "[I", Cond.methodLink RX10 49 yX10_writeLine, Cond.instanceMethod yX10_writeLine]
def wsL_words_r3 : List Cond := [Cond.selects RX10 yX10_writeLine yX10_writeLine, Cond.code yX10_writeLine cX10_writeLine 5 none, Cond.methodLink RX10 62 Lib.Math.min.name, Cond.static Lib.Math.min.name, Cond.initialized "java/lang/Math", Cond.code Lib.Math.min.name Lib.Math.min.code 2 (some .int), Cond.methodLink RX10 68 Lib.Math.max.name, Cond.static Lib.Math.max.name, Cond.code Lib.Math.max.name Lib.Math.max.code 2 (some .int), Cond.methodLink RX10 55 yX10_writeAddress, Cond.instanceMethod yX10_writeAddress, Cond.selects RX10 yX10_writeAddress yX10_writeAddress, Cond.code yX10_writeAddress cX10_writeAddress 2 none, Cond.fieldLink RX10 18 "FormatDump$WordDump" "figures" "LFormatDump$Figures;", Cond.methodLink RX10 79 yX4_take, Cond.instanceMethod yX4_take, Cond.selects RX4 yX4_take yX4_take, Cond.initialized RX4, Cond.code yX4_take cX4_take 11 none, Cond.methodLink RX4 23 Lib.Math.max.name, Cond.fieldLink RX4 15 "FormatDump$Figures" "size" "I", Cond.fieldLink RX4 19 "FormatDump$Figures" "large" "Z", Cond.fieldLink RX4 9 "FormatDump$Figures" "lowestFirst" "[I", Cond.methodLink RX10 85 yX4_writeTo]
def wsL_words_r4 : List Cond := [Cond.instanceMethod yX4_writeTo, Cond.selects RX4 yX4_writeTo yX4_writeTo, Cond.code yX4_writeTo cX4_writeTo 4 none, Cond.methodLink RX4 29 yX4_characterOf, Cond.instanceMethod yX4_characterOf, Cond.selects RX4 yX4_characterOf yX4_characterOf, Cond.code yX4_characterOf cX4_characterOf 2 (some .int), Cond.methodLink RX4 33 yX9_add, Cond.instanceMethod yX9_add, Cond.selects RX9 yX9_add yX9_add, Cond.code yX9_add cX9_add 2 none, Cond.fieldLink RX9 15 "FormatDump$Row" "limit" "I", Cond.methodLink RX10 52 yX9_add, Cond.methodLink RX10 71 yX10_wordAt, Cond.instanceMethod yX10_wordAt, Cond.selects RX10 yX10_wordAt yX10_wordAt, Cond.code yX10_wordAt cX10_wordAt 6 (some .long), Cond.methodLink RX10 75 yX10_writeField, Cond.instanceMethod yX10_writeField, Cond.selects RX10 yX10_writeField yX10_writeField, Cond.code yX10_writeField cX10_writeField 4 none, Cond.fieldLink RX10 27 "FormatDump$WordDump" "field" "LFormatDump$Row;", Cond.methodLink RX10 89 yX9_clear, Cond.methodLink RX10 92 yX10_loadCharacter]
def wsL_words_r5 : List Cond := [Cond.instanceMethod yX10_loadCharacter, Cond.selects RX10 yX10_loadCharacter yX10_loadCharacter, Cond.code yX10_loadCharacter cX10_loadCharacter 3 none, Cond.methodLink RX10 111 yX10_nameOf, Cond.static yX10_nameOf, Cond.code yX10_nameOf cX10_nameOf 1 (some .int), Cond.static yX11_canBeSeen, Cond.code yX11_canBeSeen cX11_canBeSeen 1 (some .boolean), Cond.methodLink RX10 95 yX10_loadNumber, Cond.instanceMethod yX10_loadNumber, Cond.selects RX10 yX10_loadNumber yX10_loadNumber, Cond.code yX10_loadNumber cX10_loadNumber 5 none, Cond.methodLink RX10 105 yX10_fieldBase, Cond.instanceMethod yX10_fieldBase, Cond.selects RX10 yX10_fieldBase yX10_fieldBase, Cond.code yX10_fieldBase cX10_fieldBase 1 (some .int), Cond.methodLink RX10 108 yX10_leastDigits, Cond.instanceMethod yX10_leastDigits, Cond.selects RX10 yX10_leastDigits yX10_leastDigits, Cond.code yX10_leastDigits cX10_leastDigits 1 (some .int), Cond.methodLink RX10 98 yX10_fieldWidth, Cond.instanceMethod yX10_fieldWidth, Cond.selects RX10 yX10_fieldWidth yX10_fieldWidth, Cond.code yX10_fieldWidth cX10_fieldWidth 1 (some .int)]
def wsL_words_r6 : List Cond := [Cond.methodLink RX10 117 yX10_decimalWidth, Cond.instanceMethod yX10_decimalWidth, Cond.selects RX10 yX10_decimalWidth yX10_decimalWidth, Cond.code yX10_decimalWidth cX10_decimalWidth 1 (some .int), Cond.methodLink RX10 101 yX9_addMany, Cond.instanceMethod yX9_addMany, Cond.selects RX9 yX9_addMany yX9_addMany, Cond.code yX9_addMany cX9_addMany 4 none, Cond.methodLink RX9 35 yX9_add, Cond.methodLink RX11 126 yX11_answerOfPage, Cond.instanceMethod yX11_answerOfPage, Cond.selects RX11 yX11_answerOfPage yX11_answerOfPage, Cond.code yX11_answerOfPage cX11_answerOfPage 1 (some .int), Cond.methodLink RX11 171 yX9_isOver, Cond.instanceMethod yX9_isOver, Cond.selects RX9 yX9_isOver yX9_isOver, Cond.code yX9_isOver cX9_isOver 1 (some .boolean), Cond.methodLink RX11 79 yX9_size]
def wsL_words : List Cond := .codeWith yL_words cL_words 7 (some .int) [(0, 14, 17, 27)] :: ((wsL_words_r1 ++ (wsL_words_r2 ++ (wsL_words_r3 ++ (wsL_words_r4 ++ (wsL_words_r5 ++ wsL_words_r6))))) ++ wsX110 ++ wsX90 ++ wsX100 ++ wsX40 ++ (vx_at0 RX11 105 "java/lang/IllegalArgumentException" ["java/lang/RuntimeException", "java/lang/Exception"]).filter goodWord)
def wsL_pairs_r1 : List Cond := [Cond.classLink RL 27 "java/lang/IllegalArgumentException", Cond.methodLink RL 40 yX11_pairs, Cond.instanceMethod yX11_pairs, Cond.selects RX11 yX11_pairs yX11_pairs, Cond.initialized RX11, Cond.code yX11_pairs cX11_pairs 4 (some .int), Cond.classLink RX11 103 "java/lang/IllegalArgumentException", Cond.initialized "java/lang/IllegalArgumentException", Cond.fieldLink RX11 21 "FormatDump" "page" "LFormatDump$Row;", Cond.fieldLink RX11 55 "FormatDump" "pairDump" "LFormatDump$PairDump;", Cond.methodLink RX11 150 yX11_isShape, Cond.static yX11_isShape, Cond.code yX11_isShape cX11_isShape 2 (some .boolean), Cond.methodLink RX11 89 yX9_clear, Cond.instanceMethod yX9_clear, Cond.selects RX9 yX9_clear yX9_clear, Cond.initialized RX9, Cond.code yX9_clear cX9_clear 1 none, Cond.fieldLink RX9 19 "FormatDump$Row" "size" "I", Cond.fieldLink RX9 22 "FormatDump$Row" "over" "Z", Cond.methodLink RX11 154 yX11_groupOf, Cond.static yX11_groupOf, Cond.code yX11_groupOf cX11_groupOf 2 (some .int), Cond.methodLink RX11 158 yX6_dump]
def wsL_pairs_r2 : List Cond := [Cond.instanceMethod yX6_dump, Cond.selects RX6 yX6_dump yX6_dump, Cond.initialized RX6, Cond.code yX6_dump cX6_dump 9 none, Cond.methodLink RX6 26 Lib.Math.max.name, Cond.static Lib.Math.max.name, Cond.initialized "java/lang/Math", Cond.code Lib.Math.max.name Lib.Math.max.code 2 (some .int), Cond.fieldLink RX6 15 "FormatDump$PairDump" "bytes" "LFormatDump$Row;", Cond.methodLink RX6 37 Lib.Math.min.name, Cond.static Lib.Math.min.name, Cond.code Lib.Math.min.name Lib.Math.min.code 2 (some .int), Cond.fieldLink RX6 9 "FormatDump$PairDump" "page" "LFormatDump$Row;", Cond.static yX11_pairsWidth, Cond.code yX11_pairsWidth cX11_pairsWidth 4 (some .int), Cond.methodLink RX11 195 yX11_endsGroup, Cond.static yX11_endsGroup, Cond.code yX11_endsGroup cX11_endsGroup 3 (some .boolean), Cond.methodLink RX6 31 yX9_size, Cond.instanceMethod yX9_size, Cond.selects RX9 yX9_size yX9_size, Cond.code yX9_size cX9_size 1 (some .int), Cond.methodLink RX6 40 yX6_writeDigits, Cond.instanceMethod yX6_writeDigits]
def wsL_pairs_r3 : List Cond := [Cond.selects RX6 yX6_writeDigits yX6_writeDigits, Cond.code yX6_writeDigits cX6_writeDigits 4 none, Cond.fieldLink RX6 18 "FormatDump$PairDump" "figures" "LFormatDump$Figures;", Cond.methodLink RX6 63 yX4_take, Cond.instanceMethod yX4_take, Cond.selects RX4 yX4_take yX4_take, Cond.initialized RX4, Cond.code yX4_take cX4_take 11 none, Cond.methodLink RX4 23 Lib.Math.max.name, Cond.fieldLink RX4 15 "FormatDump$Figures" "size" "I", Cond.fieldLink RX4 19 "FormatDump$Figures" "large" "Z", Cond.fieldLink RX4 9 "FormatDump$Figures" "lowestFirst" "[I", Cond.methodLink RX6 69 yX4_writeTo, Cond.instanceMethod yX4_writeTo, Cond.selects RX4 yX4_writeTo yX4_writeTo, Cond.code yX4_writeTo cX4_writeTo 4 none, Cond.methodLink RX4 29 yX4_characterOf, Cond.instanceMethod yX4_characterOf, Cond.selects RX4 yX4_characterOf yX4_characterOf, Cond.code yX4_characterOf cX4_characterOf 2 (some .int), Cond.methodLink RX4 33 yX9_add, Cond.instanceMethod yX9_add, Cond.selects RX9 yX9_add yX9_add, Cond.code yX9_add cX9_add 2 none]
def wsL_pairs_r4 : List Cond := [Cond.fieldLink RX9 15 "FormatDump$Row" "limit" "I", Cond.fieldLink RX9 9 "FormatDump$Row" "cells" "[I", Cond.methodLink RX6 44 yX9_add, Cond.methodLink RX6 48 yX9_at, Cond.instanceMethod yX9_at, Cond.selects RX9 yX9_at yX9_at, Cond.code yX9_at cX9_at 2 (some .int), Cond.methodLink RX6 56 yX9_addMany, Cond.instanceMethod yX9_addMany, Cond.selects RX9 yX9_addMany yX9_addMany, Cond.code yX9_addMany cX9_addMany 4 none, Cond.methodLink RX9 35 yX9_add, Cond.static yX11_seenAs, Cond.code yX11_seenAs cX11_seenAs 1 (some .int), Cond.methodLink RX11 192 yX11_canBeSeen, Cond.static yX11_canBeSeen, Cond.code yX11_canBeSeen cX11_canBeSeen 1 (some .boolean), Cond.methodLink RX11 126 yX11_answerOfPage, Cond.instanceMethod yX11_answerOfPage, Cond.selects RX11 yX11_answerOfPage yX11_answerOfPage, Cond.code yX11_answerOfPage cX11_answerOfPage 1 (some .int), Cond.methodLink RX11 171 yX9_isOver, Cond.instanceMethod yX9_isOver, Cond.selects RX9 yX9_isOver yX9_isOver]
def wsL_pairs_r5 : List Cond := [Cond.code yX9_isOver cX9_isOver 1 (some .boolean), Cond.methodLink RX11 79 yX9_size]
def wsL_pairs : List Cond := .codeWith yL_pairs cL_pairs 6 (some .int) [(0, 12, 15, 27)] :: ((wsL_pairs_r1 ++ (wsL_pairs_r2 ++ (wsL_pairs_r3 ++ (wsL_pairs_r4 ++ wsL_pairs_r5)))) ++ wsX110 ++ wsX90 ++ wsX60 ++ wsX40 ++ (vx_at0 RX11 105 "java/lang/IllegalArgumentException" ["java/lang/RuntimeException", "java/lang/Exception"]).filter goodWord)
def wsL_back_r1 : List Cond := [Cond.classLink RL 27 "java/lang/IllegalArgumentException", Cond.methodLink RL 44 yX11_back, Cond.instanceMethod yX11_back, Cond.selects RX11 yX11_back yX11_back, Cond.initialized RX11, Cond.code yX11_back cX11_back 4 (some .int), Cond.classLink RX11 103 "java/lang/IllegalArgumentException", Cond.initialized "java/lang/IllegalArgumentException", Cond.fieldLink RX11 64 "FormatDump" "pairReader" "LFormatDump$PairReader;", Cond.fieldLink RX11 68 "FormatDump" "faultPlace" "I", Cond.fieldLink RX11 24 "FormatDump" "bytes" "LFormatDump$Row;", Cond.methodLink RX11 150 yX11_isShape, Cond.static yX11_isShape, Cond.code yX11_isShape cX11_isShape 2 (some .boolean), Cond.methodLink RX11 154 yX11_groupOf, Cond.static yX11_groupOf, Cond.code yX11_groupOf cX11_groupOf 2 (some .int), Cond.methodLink RX11 161 yX7_readPage, Cond.instanceMethod yX7_readPage, Cond.selects RX7 yX7_readPage yX7_readPage, Cond.initialized RX7, Cond.code yX7_readPage cX7_readPage 6 (some .boolean), Cond.fieldLink RX7 20 "FormatDump$PairReader" "found" "LFormatDump$Row;", Cond.fieldLink RX7 26 "FormatDump$PairReader" "total" "I"]
def wsL_back_r2 : List Cond := [Cond.fieldLink RX7 30 "FormatDump$PairReader" "at" "I", Cond.fieldLink RX7 9 "FormatDump$PairReader" "page" "LFormatDump$Row;", Cond.fieldLink RX7 23 "FormatDump$PairReader" "lineBytes" "LFormatDump$Row;", Cond.static yX11_pairsWidth, Cond.code yX11_pairsWidth cX11_pairsWidth 4 (some .int), Cond.methodLink RX11 195 yX11_endsGroup, Cond.static yX11_endsGroup, Cond.code yX11_endsGroup cX11_endsGroup 3 (some .boolean), Cond.methodLink RX7 37 yX9_clear, Cond.instanceMethod yX9_clear, Cond.selects RX9 yX9_clear yX9_clear, Cond.initialized RX9, Cond.code yX9_clear cX9_clear 1 none, Cond.fieldLink RX9 19 "FormatDump$Row" "size" "I", Cond.fieldLink RX9 22 "FormatDump$Row" "over" "Z", Cond.methodLink RX7 40 yX9_size, Cond.instanceMethod yX9_size, Cond.selects RX9 yX9_size yX9_size, Cond.code yX9_size cX9_size 1 (some .int), Cond.methodLink RX7 44 yX7_readLine, Cond.instanceMethod yX7_readLine, Cond.selects RX7 yX7_readLine yX7_readLine, Cond.code yX7_readLine cX7_readLine 5 (some .boolean), Cond.methodLink RX7 48 yX7_readAddress]
def wsL_back_r3 : List Cond := [Cond.instanceMethod yX7_readAddress, Cond.selects RX7 yX7_readAddress yX7_readAddress, Cond.code yX7_readAddress cX7_readAddress 2 (some .boolean), Cond.methodLink RX7 66 yX9_at, Cond.instanceMethod yX9_at, Cond.selects RX9 yX9_at yX9_at, Cond.code yX9_at cX9_at 2 (some .int), Cond.fieldLink RX9 9 "FormatDump$Row" "cells" "[I", Cond.static yX11_digitOf, Cond.code yX11_digitOf cX11_digitOf 3 (some .int), Cond.methodLink RX7 52 yX7_readOne, Cond.instanceMethod yX7_readOne, Cond.selects RX7 yX7_readOne yX7_readOne, Cond.code yX7_readOne cX7_readOne 2 (some .boolean), Cond.methodLink RX7 56 yX7_readPairs, Cond.instanceMethod yX7_readPairs, Cond.selects RX7 yX7_readPairs yX7_readPairs, Cond.code yX7_readPairs cX7_readPairs 4 (some .boolean), Cond.methodLink RX7 72 yX7_readPair, Cond.instanceMethod yX7_readPair, Cond.selects RX7 yX7_readPair yX7_readPair, Cond.code yX7_readPair cX7_readPair 3 (some .boolean), Cond.methodLink RX7 78 yX9_add, Cond.instanceMethod yX9_add]
def wsL_back_r4 : List Cond := [Cond.selects RX9 yX9_add yX9_add, Cond.code yX9_add cX9_add 2 none, Cond.fieldLink RX9 15 "FormatDump$Row" "limit" "I", Cond.methodLink RX7 60 yX7_readBlanks, Cond.instanceMethod yX7_readBlanks, Cond.selects RX7 yX7_readBlanks yX7_readBlanks, Cond.code yX7_readBlanks cX7_readBlanks 2 (some .boolean), Cond.methodLink RX7 63 yX7_readSeen, Cond.instanceMethod yX7_readSeen, Cond.selects RX7 yX7_readSeen yX7_readSeen, Cond.code yX7_readSeen cX7_readSeen 2 (some .boolean), Cond.static yX11_seenAs, Cond.code yX11_seenAs cX11_seenAs 1 (some .int), Cond.methodLink RX11 192 yX11_canBeSeen, Cond.static yX11_canBeSeen, Cond.code yX11_canBeSeen cX11_canBeSeen 1 (some .boolean), Cond.methodLink RX11 164 yX7_stop, Cond.instanceMethod yX7_stop, Cond.selects RX7 yX7_stop yX7_stop, Cond.code yX7_stop cX7_stop 1 (some .int), Cond.methodLink RX11 167 yX7_found, Cond.instanceMethod yX7_found, Cond.selects RX7 yX7_found yX7_found, Cond.code yX7_found cX7_found 1 (some (.object "FormatDump$Row"))]
def wsL_back_r5 : List Cond := [Cond.methodLink RX11 171 yX9_isOver, Cond.instanceMethod yX9_isOver, Cond.selects RX9 yX9_isOver yX9_isOver, Cond.code yX9_isOver cX9_isOver 1 (some .boolean), Cond.methodLink RX11 174 yX9_copyOf, Cond.instanceMethod yX9_copyOf, Cond.selects RX9 yX9_copyOf yX9_copyOf, Cond.code yX9_copyOf cX9_copyOf 3 none, Cond.methodLink RX9 39 yX9_clear, Cond.methodLink RX9 42 yX9_size, Cond.methodLink RX9 45 yX9_at, Cond.methodLink RX9 35 yX9_add, Cond.methodLink RX11 79 yX9_size]
def wsL_back : List Cond := .codeWith yL_back cL_back 5 (some .int) [(0, 10, 13, 27)] :: ((wsL_back_r1 ++ (wsL_back_r2 ++ (wsL_back_r3 ++ (wsL_back_r4 ++ wsL_back_r5)))) ++ wsX110 ++ wsX70 ++ wsX90 ++ (vx_at0 RX11 105 "java/lang/IllegalArgumentException" ["java/lang/RuntimeException", "java/lang/Exception"]).filter goodWord)
def wsL_patch : List Cond := .codeWith yL_patch cL_patch 5 (some .int) [(0, 10, 13, 51), (0, 10, 17, 27)] :: ([.classLink RL 51 "java/lang/IndexOutOfBoundsException", .classLink RL 27 "java/lang/IllegalArgumentException", .methodLink RL 48 yX11_patch, .instanceMethod yX11_patch, .selects RX11 yX11_patch yX11_patch, .initialized RX11, .code yX11_patch cX11_patch 4 (some .int), .classLink RX11 180 "java/lang/IndexOutOfBoundsException", .initialized "java/lang/IndexOutOfBoundsException", .classLink RX11 103 "java/lang/IllegalArgumentException", .initialized "java/lang/IllegalArgumentException", .fieldLink RX11 21 "FormatDump" "page" "LFormatDump$Row;", .methodLink RX11 177 yX9_at, .instanceMethod yX9_at, .selects RX9 yX9_at yX9_at, .initialized RX9, .code yX9_at cX9_at 2 (some .int), .fieldLink RX9 19 "FormatDump$Row" "size" "I", .fieldLink RX9 9 "FormatDump$Row" "cells" "[I", .methodLink RX11 183 yX9_change, .instanceMethod yX9_change, .selects RX9 yX9_change yX9_change, .code yX9_change cX9_change 3 none] ++ wsX110 ++ wsX90 ++ (vx_at0 RX11 182 "java/lang/IndexOutOfBoundsException" ["java/lang/RuntimeException", "java/lang/Exception"]).filter goodWord ++ (vx_at0 RX11 105 "java/lang/IllegalArgumentException" ["java/lang/RuntimeException", "java/lang/Exception"]).filter goodWord)
def wsL_trim_r1 : List Cond := [Cond.classLink RL 27 "java/lang/IllegalArgumentException", Cond.methodLink RL 53 yX11_trim, Cond.instanceMethod yX11_trim, Cond.selects RX11 yX11_trim yX11_trim, Cond.initialized RX11, Cond.code yX11_trim cX11_trim 2 (some .int), Cond.classLink RX11 103 "java/lang/IllegalArgumentException", Cond.initialized "java/lang/IllegalArgumentException", Cond.fieldLink RX11 21 "FormatDump" "page" "LFormatDump$Row;", Cond.methodLink RX11 79 yX9_size, Cond.instanceMethod yX9_size, Cond.selects RX9 yX9_size yX9_size, Cond.initialized RX9, Cond.code yX9_size cX9_size 1 (some .int), Cond.fieldLink RX9 19 "FormatDump$Row" "size" "I", Cond.methodLink RX11 135 yX9_keepFirst, Cond.instanceMethod yX9_keepFirst, Cond.selects RX9 yX9_keepFirst yX9_keepFirst, Cond.code yX9_keepFirst cX9_keepFirst 4 (some .int), Cond.methodLink RX9 26 Lib.Math.min.name, Cond.static Lib.Math.min.name, Cond.initialized "java/lang/Math", Cond.code Lib.Math.min.name Lib.Math.min.code 2 (some .int), Cond.methodLink RX9 32 Lib.Math.max.name]
def wsL_trim_r2 : List Cond := [Cond.static Lib.Math.max.name, Cond.code Lib.Math.max.name Lib.Math.max.code 2 (some .int)]
def wsL_trim : List Cond := .codeWith yL_trim cL_trim 4 (some .int) [(0, 9, 12, 27)] :: ((wsL_trim_r1 ++ wsL_trim_r2) ++ wsX110 ++ wsX90 ++ (vx_at0 RX11 105 "java/lang/IllegalArgumentException" ["java/lang/RuntimeException", "java/lang/Exception"]).filter goodWord)
def wsL_law0_r1 : List Cond := [Cond.classLink RL 8 RX11, Cond.instantiable RX11 10, Cond.initialized RX11, Cond.classLink RL 57 RX12, Cond.instantiable RX12 36, Cond.initialized RX12, Cond.arrayClass .long, Cond.constantLong RL 73 (4294967295), Cond.methodLink RL 56 yX11_init, Cond.instanceMethod yX11_init, Cond.code yX11_init cX11_init 2 none, Cond.methodLink RX11 1 objectInit, Cond.instanceMethod objectInit, Cond.code objectInit ⟨#[0xb1]⟩ 1 none, Cond.classLink RX11 7 RX4, Cond.instantiable RX4 3, Cond.initialized RX4, Cond.classLink RX11 10 RX9, Cond.instantiable RX9 4, Cond.initialized RX9, Cond.fieldLink RX11 17 "FormatDump" "line" "LFormatDump$Row;", Cond.fieldLink RX11 21 "FormatDump" "page" "LFormatDump$Row;", Cond.fieldLink RX11 24 "FormatDump" "bytes" "LFormatDump$Row;", Cond.classLink RX11 27 RX1]
def wsL_law0_r2 : List Cond := [Cond.instantiable RX1 5, Cond.initialized RX1, Cond.fieldLink RX11 30 "FormatDump" "arguments" "LFormatDump$Arguments;", Cond.classLink RX11 34 RX8, Cond.instantiable RX8 8, Cond.initialized RX8, Cond.fieldLink RX11 39 "FormatDump" "printer" "LFormatDump$Printer;", Cond.classLink RX11 43 RX10, Cond.instantiable RX10 7, Cond.initialized RX10, Cond.fieldLink RX11 48 "FormatDump" "wordDump" "LFormatDump$WordDump;", Cond.classLink RX11 52 RX6, Cond.instantiable RX6 3, Cond.initialized RX6, Cond.fieldLink RX11 55 "FormatDump" "pairDump" "LFormatDump$PairDump;", Cond.classLink RX11 59 RX7, Cond.instantiable RX7 5, Cond.initialized RX7, Cond.fieldLink RX11 64 "FormatDump" "pairReader" "LFormatDump$PairReader;", Cond.fieldLink RX11 68 "FormatDump" "faultPlace" "I", Cond.fieldLink RX11 72 "FormatDump" "oddTexts" "I", Cond.methodLink RX11 9 yX4_init, Cond.instanceMethod yX4_init, Cond.code yX4_init cX4_init 1 none]
def wsL_law0_r3 : List Cond := [Cond.methodLink RX4 3 objectInit, Cond.arrayClass .int, Cond.fieldLink RX4 9 "FormatDump$Figures" "lowestFirst" "[I", Cond.fieldLink RX4 15 "FormatDump$Figures" "size" "I", Cond.fieldLink RX4 19 "FormatDump$Figures" "large" "Z", Cond.methodLink RX11 14 yX9_init, Cond.instanceMethod yX9_init, Cond.code yX9_init cX9_init 2 none, Cond.methodLink RX9 3 objectInit, Cond.fieldLink RX9 9 "FormatDump$Row" "cells" "[I", Cond.fieldLink RX9 15 "FormatDump$Row" "limit" "I", Cond.fieldLink RX9 19 "FormatDump$Row" "size" "I", Cond.fieldLink RX9 22 "FormatDump$Row" "over" "Z", Cond.methodLink RX11 29 yX1_init, Cond.instanceMethod yX1_init, Cond.code yX1_init cX1_init 2 none, Cond.methodLink RX1 3 objectInit, Cond.classLink RX1 9 RX0, Cond.fieldLink RX1 11 "FormatDump$Arguments" "all" "[LFormatDump$Argument;", Cond.instantiable RX0 3, Cond.initialized RX0, Cond.classLink RX1 18 RX5, Cond.instantiable RX5 2, Cond.initialized RX5]
def wsL_law0_r4 : List Cond := [Cond.fieldLink RX1 21 "FormatDump$Arguments" "reading" "LFormatDump$NumberReading;", Cond.fieldLink RX1 25 "FormatDump$Arguments" "count" "I", Cond.fieldLink RX1 29 "FormatDump$Arguments" "taken" "I", Cond.fieldLink RX1 32 "FormatDump$Arguments" "oddTexts" "I", Cond.methodLink RX1 17 yX0_init, Cond.instanceMethod yX0_init, Cond.code yX0_init cX0_init 1 none, Cond.methodLink RX0 3 objectInit, Cond.classLink RX0 9 RX9, Cond.fieldLink RX0 14 "FormatDump$Argument" "characters" "LFormatDump$Row;", Cond.fieldLink RX0 20 "FormatDump$Argument" "isText" "Z", Cond.fieldLink RX0 24 "FormatDump$Argument" "value" "J", Cond.methodLink RX0 11 yX9_init, Cond.methodLink RX1 20 yX5_init, Cond.instanceMethod yX5_init, Cond.code yX5_init cX5_init 1 none, Cond.methodLink RX5 3 objectInit, Cond.fieldLink RX5 9 "FormatDump$NumberReading" "value" "J", Cond.fieldLink RX5 15 "FormatDump$NumberReading" "odd" "Z", Cond.methodLink RX11 36 yX8_init, Cond.instanceMethod yX8_init, Cond.code yX8_init cX8_init 4 none, Cond.methodLink RX8 3 objectInit, Cond.fieldLink RX8 9 "FormatDump$Printer" "page" "LFormatDump$Row;"]
def wsL_law0_r5 : List Cond := [Cond.fieldLink RX8 15 "FormatDump$Printer" "arguments" "LFormatDump$Arguments;", Cond.fieldLink RX8 19 "FormatDump$Printer" "figures" "LFormatDump$Figures;", Cond.classLink RX8 23 RX3, Cond.instantiable RX3 2, Cond.initialized RX3, Cond.fieldLink RX8 26 "FormatDump$Printer" "escape" "LFormatDump$Escape;", Cond.classLink RX8 30 RX2, Cond.instantiable RX2 12, Cond.initialized RX2, Cond.fieldLink RX8 33 "FormatDump$Printer" "directive" "LFormatDump$Directive;", Cond.classLink RX8 37 RX9, Cond.fieldLink RX8 42 "FormatDump$Printer" "piece" "LFormatDump$Row;", Cond.fieldLink RX8 45 "FormatDump$Printer" "raw" "LFormatDump$Row;", Cond.fieldLink RX8 48 "FormatDump$Printer" "ended" "Z", Cond.methodLink RX8 25 yX3_init, Cond.instanceMethod yX3_init, Cond.code yX3_init cX3_init 1 none, Cond.methodLink RX3 3 objectInit, Cond.fieldLink RX3 9 "FormatDump$Escape" "value" "I", Cond.fieldLink RX3 15 "FormatDump$Escape" "end" "I", Cond.methodLink RX8 32 yX2_init, Cond.instanceMethod yX2_init, Cond.code yX2_init cX2_init 1 none, Cond.methodLink RX2 3 objectInit]
def wsL_law0_r6 : List Cond := [Cond.methodLink RX2 9 yX2_forget, Cond.instanceMethod yX2_forget, Cond.selects RX2 yX2_forget yX2_forget, Cond.code yX2_forget cX2_forget 1 none, Cond.fieldLink RX2 51 "FormatDump$Directive" "flagLeft" "Z", Cond.fieldLink RX2 77 "FormatDump$Directive" "flagPlus" "Z", Cond.fieldLink RX2 80 "FormatDump$Directive" "flagBlank" "Z", Cond.fieldLink RX2 83 "FormatDump$Directive" "flagMark" "Z", Cond.fieldLink RX2 47 "FormatDump$Directive" "flagZero" "Z", Cond.fieldLink RX2 86 "FormatDump$Directive" "starWidth" "Z", Cond.fieldLink RX2 89 "FormatDump$Directive" "starPrecision" "Z", Cond.fieldLink RX2 61 "FormatDump$Directive" "width" "I", Cond.fieldLink RX2 54 "FormatDump$Directive" "precision" "I", Cond.fieldLink RX2 92 "FormatDump$Directive" "bits" "I", Cond.fieldLink RX2 37 "FormatDump$Directive" "letter" "I", Cond.fieldLink RX2 14 "FormatDump$Directive" "end" "I", Cond.methodLink RX8 39 yX9_init, Cond.methodLink RX11 45 yX10_init, Cond.instanceMethod yX10_init, Cond.code yX10_init cX10_init 4 none, Cond.methodLink RX10 3 objectInit, Cond.fieldLink RX10 9 "FormatDump$WordDump" "page" "LFormatDump$Row;", Cond.fieldLink RX10 15 "FormatDump$WordDump" "bytes" "LFormatDump$Row;", Cond.fieldLink RX10 18 "FormatDump$WordDump" "figures" "LFormatDump$Figures;"]
def wsL_law0_r7 : List Cond := [Cond.classLink RX10 22 RX9, Cond.fieldLink RX10 27 "FormatDump$WordDump" "field" "LFormatDump$Row;", Cond.fieldLink RX10 30 "FormatDump$WordDump" "addressBase" "I", Cond.fieldLink RX10 34 "FormatDump$WordDump" "letter" "C", Cond.fieldLink RX10 38 "FormatDump$WordDump" "wordSize" "I", Cond.methodLink RX10 24 yX9_init, Cond.methodLink RX11 54 yX6_init, Cond.instanceMethod yX6_init, Cond.code yX6_init cX6_init 4 none, Cond.methodLink RX6 3 objectInit, Cond.fieldLink RX6 9 "FormatDump$PairDump" "page" "LFormatDump$Row;", Cond.fieldLink RX6 15 "FormatDump$PairDump" "bytes" "LFormatDump$Row;", Cond.fieldLink RX6 18 "FormatDump$PairDump" "figures" "LFormatDump$Figures;", Cond.methodLink RX11 61 yX7_init, Cond.instanceMethod yX7_init, Cond.code yX7_init cX7_init 2 none, Cond.methodLink RX7 3 objectInit, Cond.fieldLink RX7 9 "FormatDump$PairReader" "page" "LFormatDump$Row;", Cond.classLink RX7 15 RX9, Cond.fieldLink RX7 20 "FormatDump$PairReader" "found" "LFormatDump$Row;", Cond.fieldLink RX7 23 "FormatDump$PairReader" "lineBytes" "LFormatDump$Row;", Cond.fieldLink RX7 26 "FormatDump$PairReader" "total" "I", Cond.fieldLink RX7 30 "FormatDump$PairReader" "at" "I", Cond.methodLink RX7 17 yX9_init]
def wsL_law0_r8 : List Cond := [Cond.methodLink RL 59 yX12_init, Cond.instanceMethod yX12_init, Cond.code yX12_init cX12_init 1 none, Cond.methodLink RX12 1 objectInit, Cond.arrayClass .char, Cond.fieldLink RX12 7 "FormatDumpModel" "line" "[C", Cond.arrayClass .boolean, Cond.fieldLink RX12 13 "FormatDumpModel" "isText" "[Z", Cond.fieldLink RX12 17 "FormatDumpModel" "numbers" "[J", Cond.fieldLink RX12 21 "FormatDumpModel" "textSize" "[I", Cond.fieldLink RX12 25 "FormatDumpModel" "texts" "[C", Cond.fieldLink RX12 28 "FormatDumpModel" "bytes" "[I", Cond.fieldLink RX12 31 "FormatDumpModel" "room" "I", Cond.fieldLink RX12 35 "FormatDumpModel" "out" "[C", Cond.fieldLink RX12 38 "FormatDumpModel" "faultPlace" "I", Cond.fieldLink RX12 41 "FormatDumpModel" "row" "[C", Cond.fieldLink RX12 44 "FormatDumpModel" "digits" "[C", Cond.fieldLink RX12 47 "FormatDumpModel" "found" "[I", Cond.methodLink RL 60 yL_type, Cond.static yL_type, Cond.initialized RL, Cond.codeWith yL_type cL_type 8 (some .int) [(0, 16, 19, 13)], Cond.classLink RL 13 "java/lang/IllegalStateException", Cond.methodLink RL 7 yX11_type]
def wsL_law0_r9 : List Cond := [Cond.instanceMethod yX11_type, Cond.selects RX11 yX11_type yX11_type, Cond.code yX11_type cX11_type 7 (some .int), Cond.classLink RX11 83 "java/lang/IllegalStateException", Cond.initialized "java/lang/IllegalStateException", Cond.methodLink RX11 75 yX11_charactersIn, Cond.static yX11_charactersIn, Cond.code yX11_charactersIn cX11_charactersIn 3 (some .int), Cond.methodLink RX11 186 yX11_byteOf, Cond.static yX11_byteOf, Cond.code yX11_byteOf cX11_byteOf 2 (some .int), Cond.methodLink RX11 79 yX9_size, Cond.instanceMethod yX9_size, Cond.selects RX9 yX9_size yX9_size, Cond.code yX9_size cX9_size 1 (some .int), Cond.methodLink RX11 86 yX11_typeWord, Cond.instanceMethod yX11_typeWord, Cond.selects RX11 yX11_typeWord yX11_typeWord, Cond.code yX11_typeWord cX11_typeWord 4 none, Cond.methodLink RX11 189 yX9_add, Cond.instanceMethod yX9_add, Cond.selects RX9 yX9_add yX9_add, Cond.code yX9_add cX9_add 2 none, Cond.methodLink RL 65 yX12_type]
def wsL_law0_r10 : List Cond := [Cond.instanceMethod yX12_type, Cond.selects RX12 yX12_type yX12_type, Cond.code yX12_type cX12_type 7 (some .int), Cond.fieldLink RX12 53 "FormatDumpModel" "lineSize" "I", Cond.methodLink RX12 56 yX12_typed, Cond.instanceMethod yX12_typed, Cond.selects RX12 yX12_typed yX12_typed, Cond.code yX12_typed cX12_typed 6 (some .int), Cond.methodLink RX12 60 yX12_refused, Cond.instanceMethod yX12_refused, Cond.selects RX12 yX12_refused yX12_refused, Cond.code yX12_refused cX12_refused 2 (some .boolean), Cond.fieldLink RX12 50 "FormatDumpModel" "fault" "I", Cond.methodLink RL 66 yX12_thrown, Cond.instanceMethod yX12_thrown, Cond.selects RX12 yX12_thrown yX12_thrown, Cond.code yX12_thrown cX12_thrown 1 (some .int), Cond.methodLink RL 69 yX11_erase, Cond.instanceMethod yX11_erase, Cond.selects RX11 yX11_erase yX11_erase, Cond.code yX11_erase cX11_erase 2 (some .int), Cond.methodLink RX11 89 yX9_clear, Cond.instanceMethod yX9_clear, Cond.selects RX9 yX9_clear yX9_clear]
def wsL_law0_r11 : List Cond := [Cond.code yX9_clear cX9_clear 1 none, Cond.methodLink RL 72 yX12_erase, Cond.instanceMethod yX12_erase, Cond.selects RX12 yX12_erase yX12_erase, Cond.code yX12_erase cX12_erase 2 (some .int), Cond.methodLink RL 75 yL_number, Cond.static yL_number, Cond.codeWith yL_number cL_number 5 (some .int) [(0, 9, 12, 13)], Cond.methodLink RL 15 yX11_number, Cond.instanceMethod yX11_number, Cond.selects RX11 yX11_number yX11_number, Cond.code yX11_number cX11_number 3 (some .int), Cond.methodLink RX11 92 yX1_count, Cond.instanceMethod yX1_count, Cond.selects RX1 yX1_count yX1_count, Cond.code yX1_count cX1_count 1 (some .int), Cond.methodLink RX11 95 yX1_addNumber, Cond.instanceMethod yX1_addNumber, Cond.selects RX1 yX1_addNumber yX1_addNumber, Cond.code yX1_addNumber cX1_addNumber 3 none, Cond.fieldLink RX1 35 "FormatDump$Argument" "isText" "Z", Cond.fieldLink RX1 39 "FormatDump$Argument" "value" "J", Cond.methodLink RL 78 yX12_number, Cond.instanceMethod yX12_number]
def wsL_law0_r12 : List Cond := [Cond.selects RX12 yX12_number yX12_number, Cond.code yX12_number cX12_number 3 (some .int), Cond.fieldLink RX12 64 "FormatDumpModel" "arguments" "I", Cond.methodLink RL 79 yL_text, Cond.static yL_text, Cond.codeWith yL_text cL_text 3 (some .int) [(0, 8, 11, 13)], Cond.methodLink RL 19 yX11_text, Cond.instanceMethod yX11_text, Cond.selects RX11 yX11_text yX11_text, Cond.code yX11_text cX11_text 1 (some .int), Cond.methodLink RX11 99 yX1_addText, Cond.instanceMethod yX1_addText, Cond.selects RX1 yX1_addText yX1_addText, Cond.code yX1_addText cX1_addText 2 none, Cond.fieldLink RX1 43 "FormatDump$Argument" "characters" "LFormatDump$Row;", Cond.methodLink RX1 47 yX9_copyOf, Cond.instanceMethod yX9_copyOf, Cond.selects RX9 yX9_copyOf yX9_copyOf, Cond.code yX9_copyOf cX9_copyOf 3 none, Cond.methodLink RX9 39 yX9_clear, Cond.methodLink RX9 42 yX9_size, Cond.methodLink RX9 45 yX9_at, Cond.instanceMethod yX9_at, Cond.selects RX9 yX9_at yX9_at]
def wsL_law0_r13 : List Cond := [Cond.code yX9_at cX9_at 2 (some .int), Cond.methodLink RX9 35 yX9_add, Cond.methodLink RL 82 yX12_text, Cond.instanceMethod yX12_text, Cond.selects RX12 yX12_text yX12_text, Cond.code yX12_text cX12_text 2 (some .int), Cond.methodLink RL 83 yX11_none, Cond.instanceMethod yX11_none, Cond.selects RX11 yX11_none yX11_none, Cond.code yX11_none cX11_none 2 (some .int), Cond.methodLink RX11 102 yX1_clear, Cond.instanceMethod yX1_clear, Cond.selects RX1 yX1_clear yX1_clear, Cond.code yX1_clear cX1_clear 1 none, Cond.methodLink RL 86 yX12_none, Cond.instanceMethod yX12_none, Cond.selects RX12 yX12_none yX12_none, Cond.code yX12_none cX12_none 2 (some .int), Cond.methodLink RL 87 yL_room, Cond.static yL_room, Cond.codeWith yL_room cL_room 3 (some .int) [(0, 5, 8, 27)], Cond.classLink RL 27 "java/lang/IllegalArgumentException", Cond.methodLink RL 23 yX11_room, Cond.instanceMethod yX11_room]
def wsL_law0_r14 : List Cond := [Cond.selects RX11 yX11_room yX11_room, Cond.code yX11_room cX11_room 2 none, Cond.classLink RX11 103 "java/lang/IllegalArgumentException", Cond.initialized "java/lang/IllegalArgumentException", Cond.methodLink RX11 106 yX9_limitTo, Cond.instanceMethod yX9_limitTo, Cond.selects RX9 yX9_limitTo yX9_limitTo, Cond.code yX9_limitTo cX9_limitTo 2 none, Cond.methodLink RX9 26 Lib.Math.min.name, Cond.static Lib.Math.min.name, Cond.initialized "java/lang/Math", Cond.code Lib.Math.min.name Lib.Math.min.code 2 (some .int), Cond.methodLink RX9 32 Lib.Math.max.name, Cond.static Lib.Math.max.name, Cond.code Lib.Math.max.name Lib.Math.max.code 2 (some .int), Cond.methodLink RL 90 yX12_room, Cond.instanceMethod yX12_room, Cond.selects RX12 yX12_room yX12_room, Cond.code yX12_room cX12_room 2 none, Cond.fieldLink RX12 71 "FormatDumpModel" "outSize" "I", Cond.methodLink RX12 67 yX12_isIn, Cond.static yX12_isIn, Cond.code yX12_isIn cX12_isIn 3 (some .boolean), Cond.methodLink RL 91 yX11_print]
def wsL_law0_r15 : List Cond := [Cond.instanceMethod yX11_print, Cond.selects RX11 yX11_print yX11_print, Cond.code yX11_print cX11_print 5 (some .int), Cond.methodLink RX11 109 yX8_faultIn, Cond.instanceMethod yX8_faultIn, Cond.selects RX8 yX8_faultIn yX8_faultIn, Cond.code yX8_faultIn cX8_faultIn 5 (some .int), Cond.methodLink RX8 52 yX9_size, Cond.methodLink RX8 56 yX8_readPiece, Cond.instanceMethod yX8_readPiece, Cond.selects RX8 yX8_readPiece yX8_readPiece, Cond.code yX8_readPiece cX8_readPiece 4 (some .int), Cond.fieldLink RX8 91 "FormatDump$Directive" "end" "I", Cond.methodLink RX8 68 yX9_at, Cond.methodLink RX8 81 yX3_readInFormat, Cond.instanceMethod yX3_readInFormat, Cond.selects RX3 yX3_readInFormat yX3_readInFormat, Cond.code yX3_readInFormat cX3_readInFormat 3 (some .boolean), Cond.methodLink RX3 18 yX3_readLetter, Cond.instanceMethod yX3_readLetter, Cond.selects RX3 yX3_readLetter yX3_readLetter, Cond.code yX3_readLetter cX3_readLetter 3 (some .boolean), Cond.methodLink RX3 26 yX9_at, Cond.methodLink RX3 32 yX3_meaningOf]
def wsL_law0_r16 : List Cond := [Cond.static yX3_meaningOf, Cond.code yX3_meaningOf cX3_meaningOf 1 (some .int), Cond.methodLink RX3 22 yX3_readOctal, Cond.instanceMethod yX3_readOctal, Cond.selects RX3 yX3_readOctal yX3_readOctal, Cond.code yX3_readOctal cX3_readOctal 4 none, Cond.static yX11_digitOf, Cond.code yX11_digitOf cX11_digitOf 3 (some .int), Cond.methodLink RX8 85 yX3_end, Cond.instanceMethod yX3_end, Cond.selects RX3 yX3_end yX3_end, Cond.code yX3_end cX3_end 1 (some .int), Cond.methodLink RX8 88 yX2_read, Cond.instanceMethod yX2_read, Cond.selects RX2 yX2_read yX2_read, Cond.code yX2_read cX2_read 3 (some .boolean), Cond.methodLink RX2 18 yX2_readFlags, Cond.instanceMethod yX2_readFlags, Cond.selects RX2 yX2_readFlags yX2_readFlags, Cond.code yX2_readFlags cX2_readFlags 2 none, Cond.methodLink RX2 95 yX9_size, Cond.methodLink RX2 31 yX9_at, Cond.methodLink RX2 99 yX2_noteFlag, Cond.instanceMethod yX2_noteFlag]
def wsL_law0_r17 : List Cond := [Cond.selects RX2 yX2_noteFlag yX2_noteFlag, Cond.code yX2_noteFlag cX2_noteFlag 2 (some .boolean), Cond.methodLink RX2 22 yX2_readWidth, Cond.instanceMethod yX2_readWidth, Cond.selects RX2 yX2_readWidth yX2_readWidth, Cond.code yX2_readWidth cX2_readWidth 2 none, Cond.methodLink RX2 103 yX2_readTwoDigits, Cond.instanceMethod yX2_readTwoDigits, Cond.selects RX2 yX2_readTwoDigits yX2_readTwoDigits, Cond.code yX2_readTwoDigits cX2_readTwoDigits 4 (some .int), Cond.methodLink RX2 25 yX2_readPrecision, Cond.instanceMethod yX2_readPrecision, Cond.selects RX2 yX2_readPrecision yX2_readPrecision, Cond.code yX2_readPrecision cX2_readPrecision 2 none, Cond.methodLink RX2 28 yX2_readLength, Cond.instanceMethod yX2_readLength, Cond.selects RX2 yX2_readLength yX2_readLength, Cond.code yX2_readLength cX2_readLength 3 none, Cond.methodLink RX2 40 yX2_isLetter, Cond.instanceMethod yX2_isLetter, Cond.selects RX2 yX2_isLetter yX2_isLetter, Cond.code yX2_isLetter cX2_isLetter 1 (some .boolean), Cond.methodLink RX11 113 yX8_begin, Cond.instanceMethod yX8_begin]
def wsL_law0_r18 : List Cond := [Cond.selects RX8 yX8_begin yX8_begin, Cond.code yX8_begin cX8_begin 1 none, Cond.methodLink RX8 60 yX9_clear, Cond.methodLink RX8 63 yX1_takeFromFront, Cond.instanceMethod yX1_takeFromFront, Cond.selects RX1 yX1_takeFromFront yX1_takeFromFront, Cond.code yX1_takeFromFront cX1_takeFromFront 1 none, Cond.methodLink RX11 116 yX1_taken, Cond.instanceMethod yX1_taken, Cond.selects RX1 yX1_taken yX1_taken, Cond.code yX1_taken cX1_taken 1 (some .int), Cond.methodLink RX11 119 yX8_printOnce, Cond.instanceMethod yX8_printOnce, Cond.selects RX8 yX8_printOnce yX8_printOnce, Cond.code yX8_printOnce cX8_printOnce 6 none, Cond.methodLink RX8 72 yX3_value, Cond.instanceMethod yX3_value, Cond.selects RX3 yX3_value yX3_value, Cond.code yX3_value cX3_value 1 (some .int), Cond.methodLink RX8 75 yX9_add, Cond.methodLink RX8 78 yX8_printDirective, Cond.instanceMethod yX8_printDirective, Cond.selects RX8 yX8_printDirective yX8_printDirective, Cond.code yX8_printDirective cX8_printDirective 1 none]
def wsL_law0_r19 : List Cond := [Cond.fieldLink RX8 94 "FormatDump$Directive" "starWidth" "Z", Cond.fieldLink RX8 105 "FormatDump$Directive" "starPrecision" "Z", Cond.fieldLink RX8 111 "FormatDump$Directive" "letter" "I", Cond.methodLink RX8 97 yX1_takeNumber, Cond.instanceMethod yX1_takeNumber, Cond.selects RX1 yX1_takeNumber yX1_takeNumber, Cond.code yX1_takeNumber cX1_takeNumber 2 (some .long), Cond.methodLink RX1 53 yX1_takeNext, Cond.instanceMethod yX1_takeNext, Cond.selects RX1 yX1_takeNext yX1_takeNext, Cond.code yX1_takeNext cX1_takeNext 1 (some (.object "FormatDump$Argument")), Cond.methodLink RX1 57 yX5_read, Cond.instanceMethod yX5_read, Cond.selects RX5 yX5_read yX5_read, Cond.code yX5_read cX5_read 4 none, Cond.methodLink RX5 19 yX9_at, Cond.methodLink RX5 25 yX5_readCharacter, Cond.instanceMethod yX5_readCharacter, Cond.selects RX5 yX5_readCharacter yX5_readCharacter, Cond.code yX5_readCharacter cX5_readCharacter 2 none, Cond.methodLink RX5 37 yX9_size, Cond.methodLink RX5 29 yX5_readDigits, Cond.instanceMethod yX5_readDigits, Cond.selects RX5 yX5_readDigits yX5_readDigits]
def wsL_law0_r20 : List Cond := [Cond.code yX5_readDigits cX5_readDigits 5 none, Cond.methodLink RX5 33 yX5_isHexadecimal, Cond.static yX5_isHexadecimal, Cond.code yX5_isHexadecimal cX5_isHexadecimal 3 (some .boolean), Cond.methodLink RX1 60 yX5_isOdd, Cond.instanceMethod yX5_isOdd, Cond.selects RX5 yX5_isOdd yX5_isOdd, Cond.code yX5_isOdd cX5_isOdd 1 (some .boolean), Cond.methodLink RX1 64 yX5_value, Cond.instanceMethod yX5_value, Cond.selects RX5 yX5_value yX5_value, Cond.code yX5_value cX5_value 1 (some .long), Cond.methodLink RX8 101 yX2_takeWidth, Cond.instanceMethod yX2_takeWidth, Cond.selects RX2 yX2_takeWidth yX2_takeWidth, Cond.code yX2_takeWidth cX2_takeWidth 4 none, Cond.methodLink RX2 57 yX2_cutToStar, Cond.static yX2_cutToStar, Cond.code yX2_cutToStar cX2_cutToStar 2 (some .int), Cond.constantLong RX2 64 (-99), Cond.constantLong RX2 66 (99), Cond.methodLink RX2 68 Lib.MathLoose.min_long.x, Cond.static Lib.MathLoose.min_long.x, Cond.code Lib.MathLoose.min_long.x Lib.MathLoose.min_long.code 4 (some .long)]
def wsL_law0_r21 : List Cond := [Cond.methodLink RX2 74 Lib.MathLoose.max_long.x, Cond.static Lib.MathLoose.max_long.x, Cond.code Lib.MathLoose.max_long.x Lib.MathLoose.max_long.code 4 (some .long), Cond.methodLink RX8 108 yX2_takePrecision, Cond.instanceMethod yX2_takePrecision, Cond.selects RX2 yX2_takePrecision yX2_takePrecision, Cond.code yX2_takePrecision cX2_takePrecision 3 none, Cond.methodLink RX8 114 yX1_takeNext, Cond.methodLink RX8 118 yX8_loadCharacter, Cond.instanceMethod yX8_loadCharacter, Cond.selects RX8 yX8_loadCharacter yX8_loadCharacter, Cond.code yX8_loadCharacter cX8_loadCharacter 2 none, Cond.fieldLink RX8 137 "FormatDump$Argument" "isText" "Z", Cond.fieldLink RX8 142 "FormatDump$Argument" "value" "J", Cond.fieldLink RX8 145 "FormatDump$Argument" "characters" "LFormatDump$Row;", Cond.methodLink RX8 122 yX8_printFilled, Cond.instanceMethod yX8_printFilled, Cond.selects RX8 yX8_printFilled yX8_printFilled, Cond.code yX8_printFilled cX8_printFilled 3 none, Cond.fieldLink RX8 174 "FormatDump$Directive" "width" "I", Cond.fieldLink RX8 177 "FormatDump$Directive" "flagLeft" "Z", Cond.methodLink RX8 180 yX9_addMany, Cond.instanceMethod yX9_addMany, Cond.selects RX9 yX9_addMany yX9_addMany]
def wsL_law0_r22 : List Cond := [Cond.code yX9_addMany cX9_addMany 4 none, Cond.methodLink RX8 125 yX8_loadText, Cond.instanceMethod yX8_loadText, Cond.selects RX8 yX8_loadText yX8_loadText, Cond.code yX8_loadText cX8_loadText 2 none, Cond.methodLink RX8 148 yX9_copyOf, Cond.methodLink RX8 152 yX8_loadNumber, Cond.instanceMethod yX8_loadNumber, Cond.selects RX8 yX8_loadNumber yX8_loadNumber, Cond.code yX8_loadNumber cX8_loadNumber 3 none, Cond.methodLink RX8 155 yX4_take, Cond.instanceMethod yX4_take, Cond.selects RX4 yX4_take yX4_take, Cond.code yX4_take cX4_take 11 none, Cond.methodLink RX4 23 Lib.Math.max.name, Cond.methodLink RX8 161 yX4_writeTo, Cond.instanceMethod yX4_writeTo, Cond.selects RX4 yX4_writeTo yX4_writeTo, Cond.code yX4_writeTo cX4_writeTo 4 none, Cond.methodLink RX4 29 yX4_characterOf, Cond.instanceMethod yX4_characterOf, Cond.selects RX4 yX4_characterOf yX4_characterOf, Cond.code yX4_characterOf cX4_characterOf 2 (some .int), Cond.methodLink RX4 33 yX9_add]
def wsL_law0_r23 : List Cond := [Cond.methodLink RX8 128 yX8_keepPrecision, Cond.instanceMethod yX8_keepPrecision, Cond.selects RX8 yX8_keepPrecision yX8_keepPrecision, Cond.code yX8_keepPrecision cX8_keepPrecision 1 none, Cond.fieldLink RX8 168 "FormatDump$Directive" "precision" "I", Cond.methodLink RX8 171 yX9_keepFirst, Cond.instanceMethod yX9_keepFirst, Cond.selects RX9 yX9_keepFirst yX9_keepFirst, Cond.code yX9_keepFirst cX9_keepFirst 4 (some .int), Cond.methodLink RX8 131 yX8_unescapePiece, Cond.instanceMethod yX8_unescapePiece, Cond.selects RX8 yX8_unescapePiece yX8_unescapePiece, Cond.code yX8_unescapePiece cX8_unescapePiece 4 none, Cond.methodLink RX8 165 yX3_readInText, Cond.instanceMethod yX3_readInText, Cond.selects RX3 yX3_readInText yX3_readInText, Cond.code yX3_readInText cX3_readInText 3 (some .boolean), Cond.methodLink RX8 134 yX8_printNumber, Cond.instanceMethod yX8_printNumber, Cond.selects RX8 yX8_printNumber yX8_printNumber, Cond.code yX8_printNumber cX8_printNumber 12 none, Cond.fieldLink RX8 198 "FormatDump$Directive" "flagMark" "Z", Cond.methodLink RX8 184 yX8_narrowed, Cond.instanceMethod yX8_narrowed]
def wsL_law0_r24 : List Cond := [Cond.selects RX8 yX8_narrowed yX8_narrowed, Cond.code yX8_narrowed cX8_narrowed 6 (some .long), Cond.fieldLink RX8 211 "FormatDump$Directive" "bits" "I", Cond.methodLink RX8 188 yX2_isSigned, Cond.instanceMethod yX2_isSigned, Cond.selects RX2 yX2_isSigned yX2_isSigned, Cond.code yX2_isSigned cX2_isSigned 1 (some .boolean), Cond.methodLink RX8 192 yX2_base, Cond.instanceMethod yX2_base, Cond.selects RX2 yX2_base yX2_base, Cond.code yX2_base cX2_base 1 (some .int), Cond.methodLink RX2 44 yX2_isHexadecimal, Cond.instanceMethod yX2_isHexadecimal, Cond.selects RX2 yX2_isHexadecimal yX2_isHexadecimal, Cond.code yX2_isHexadecimal cX2_isHexadecimal 1 (some .boolean), Cond.methodLink RX8 195 yX8_digitsDue, Cond.instanceMethod yX8_digitsDue, Cond.selects RX8 yX8_digitsDue yX8_digitsDue, Cond.code yX8_digitsDue cX8_digitsDue 3 (some .int), Cond.methodLink RX8 215 Lib.Math.max.name, Cond.methodLink RX8 214 yX4_size, Cond.instanceMethod yX4_size, Cond.selects RX4 yX4_size yX4_size, Cond.code yX4_size cX4_size 1 (some .int)]
def wsL_law0_r25 : List Cond := [Cond.methodLink RX8 201 yX2_isHexadecimal, Cond.methodLink RX8 204 yX8_signOf, Cond.instanceMethod yX8_signOf, Cond.selects RX8 yX8_signOf yX8_signOf, Cond.code yX8_signOf cX8_signOf 2 (some .int), Cond.fieldLink RX8 221 "FormatDump$Directive" "flagPlus" "Z", Cond.fieldLink RX8 224 "FormatDump$Directive" "flagBlank" "Z", Cond.methodLink RX8 208 yX2_fillsWithZeros, Cond.instanceMethod yX2_fillsWithZeros, Cond.selects RX2 yX2_fillsWithZeros yX2_fillsWithZeros, Cond.code yX2_fillsWithZeros cX2_fillsWithZeros 1 (some .boolean), Cond.methodLink RX11 122 yX8_hasEnded, Cond.instanceMethod yX8_hasEnded, Cond.selects RX8 yX8_hasEnded yX8_hasEnded, Cond.code yX8_hasEnded cX8_hasEnded 1 (some .boolean), Cond.methodLink RX11 126 yX11_answerOfPage, Cond.instanceMethod yX11_answerOfPage, Cond.selects RX11 yX11_answerOfPage yX11_answerOfPage, Cond.code yX11_answerOfPage cX11_answerOfPage 1 (some .int), Cond.methodLink RX11 171 yX9_isOver, Cond.instanceMethod yX9_isOver, Cond.selects RX9 yX9_isOver yX9_isOver, Cond.code yX9_isOver cX9_isOver 1 (some .boolean), Cond.methodLink RX11 129 yX1_oddTexts]
def wsL_law0_r26 : List Cond := [Cond.instanceMethod yX1_oddTexts, Cond.selects RX1 yX1_oddTexts yX1_oddTexts, Cond.code yX1_oddTexts cX1_oddTexts 1 (some .int), Cond.methodLink RL 94 yX12_print, Cond.instanceMethod yX12_print, Cond.selects RX12 yX12_print yX12_print, Cond.code yX12_print cX12_print 3 (some .int), Cond.fieldLink RX12 156 "FormatDumpModel" "next" "I", Cond.fieldLink RX12 188 "FormatDumpModel" "ends" "Z", Cond.fieldLink RX12 149 "FormatDumpModel" "oddNow" "I", Cond.fieldLink RX12 74 "FormatDumpModel" "isFull" "Z", Cond.fieldLink RX12 224 "FormatDumpModel" "odds" "I", Cond.methodLink RX12 215 yX12_badAt, Cond.instanceMethod yX12_badAt, Cond.selects RX12 yX12_badAt yX12_badAt, Cond.code yX12_badAt cX12_badAt 4 (some .int), Cond.fieldLink RX12 106 "FormatDumpModel" "at" "I", Cond.methodLink RX12 138 yX12_readEscape, Cond.instanceMethod yX12_readEscape, Cond.selects RX12 yX12_readEscape yX12_readEscape, Cond.code yX12_readEscape cX12_readEscape 4 (some .int), Cond.methodLink RX12 109 yX12_charAt, Cond.instanceMethod yX12_charAt, Cond.selects RX12 yX12_charAt yX12_charAt]
def wsL_law0_r27 : List Cond := [Cond.code yX12_charAt cX12_charAt 2 (some .char), Cond.methodLink RX12 130 yX12_isOctal, Cond.static yX12_isOctal, Cond.code yX12_isOctal cX12_isOctal 1 (some .boolean), Cond.methodLink RX12 134 yX12_escapeOf, Cond.static yX12_escapeOf, Cond.code yX12_escapeOf cX12_escapeOf 1 (some .int), Cond.methodLink RX12 141 yX12_readDirective, Cond.instanceMethod yX12_readDirective, Cond.selects RX12 yX12_readDirective yX12_readDirective, Cond.code yX12_readDirective cX12_readDirective 4 (some .boolean), Cond.fieldLink RX12 91 "FormatDumpModel" "minus" "Z", Cond.fieldLink RX12 94 "FormatDumpModel" "plus" "Z", Cond.fieldLink RX12 97 "FormatDumpModel" "blank" "Z", Cond.fieldLink RX12 100 "FormatDumpModel" "sharp" "Z", Cond.fieldLink RX12 103 "FormatDumpModel" "zero" "Z", Cond.fieldLink RX12 113 "FormatDumpModel" "width" "I", Cond.fieldLink RX12 120 "FormatDumpModel" "precision" "I", Cond.fieldLink RX12 123 "FormatDumpModel" "bits" "I", Cond.fieldLink RX12 126 "FormatDumpModel" "kind" "C", Cond.methodLink RX12 116 yX12_readTwo, Cond.instanceMethod yX12_readTwo, Cond.selects RX12 yX12_readTwo yX12_readTwo, Cond.code yX12_readTwo cX12_readTwo 3 (some .int)]
def wsL_law0_r28 : List Cond := [Cond.methodLink RX12 218 yX12_begin, Cond.instanceMethod yX12_begin, Cond.selects RX12 yX12_begin yX12_begin, Cond.code yX12_begin cX12_begin 1 none, Cond.methodLink RX12 221 yX12_printOnce, Cond.instanceMethod yX12_printOnce, Cond.selects RX12 yX12_printOnce yX12_printOnce, Cond.code yX12_printOnce cX12_printOnce 2 none, Cond.methodLink RX12 87 yX12_put, Cond.instanceMethod yX12_put, Cond.selects RX12 yX12_put yX12_put, Cond.code yX12_put cX12_put 2 none, Cond.methodLink RX12 212 yX12_printDirective, Cond.instanceMethod yX12_printDirective, Cond.selects RX12 yX12_printDirective yX12_printDirective, Cond.code yX12_printDirective cX12_printDirective 3 none, Cond.fieldLink RX12 163 "FormatDumpModel" "rowSize" "I", Cond.constantLong RX12 198 (255), Cond.methodLink RX12 177 yX12_takeNumber, Cond.instanceMethod yX12_takeNumber, Cond.selects RX12 yX12_takeNumber yX12_takeNumber, Cond.code yX12_takeNumber cX12_takeNumber 2 (some .long), Cond.methodLink RX12 159 yX12_textNumber, Cond.instanceMethod yX12_textNumber]
def wsL_law0_r29 : List Cond := [Cond.selects RX12 yX12_textNumber yX12_textNumber, Cond.code yX12_textNumber cX12_textNumber 9 (some .long), Cond.methodLink RX12 145 yX12_textAt, Cond.instanceMethod yX12_textAt, Cond.selects RX12 yX12_textAt yX12_textAt, Cond.code yX12_textAt cX12_textAt 3 (some .char), Cond.methodLink RX12 152 yX12_baseDigit, Cond.static yX12_baseDigit, Cond.code yX12_baseDigit cX12_baseDigit 3 (some .int), Cond.methodLink RX12 191 yX12_cutTo, Cond.static yX12_cutTo, Cond.code yX12_cutTo cX12_cutTo 2 (some .int), Cond.constantLong RX12 173 (-99), Cond.constantLong RX12 175 (99), Cond.methodLink RX12 195 yX12_takeText, Cond.instanceMethod yX12_takeText, Cond.selects RX12 yX12_takeText yX12_takeText, Cond.code yX12_takeText cX12_takeText 5 none, Cond.fieldLink RX12 78 "FormatDumpModel" "digitCount" "I", Cond.methodLink RX12 166 yX12_reckon, Cond.instanceMethod yX12_reckon, Cond.selects RX12 yX12_reckon yX12_reckon, Cond.code yX12_reckon cX12_reckon 9 none, Cond.constantLong RX12 81 (5)]
def wsL_law0_r30 : List Cond := [Cond.methodLink RX12 83 yX12_digit, Cond.static yX12_digit, Cond.code yX12_digit cX12_digit 2 (some .char), Cond.methodLink RX12 170 yX12_fill, Cond.instanceMethod yX12_fill, Cond.selects RX12 yX12_fill yX12_fill, Cond.code yX12_fill cX12_fill 2 none, Cond.methodLink RX12 200 yX12_noArgument, Cond.instanceMethod yX12_noArgument, Cond.selects RX12 yX12_noArgument yX12_noArgument, Cond.code yX12_noArgument cX12_noArgument 1 (some .int), Cond.methodLink RX12 203 yX12_printRow, Cond.instanceMethod yX12_printRow, Cond.selects RX12 yX12_printRow yX12_printRow, Cond.code yX12_printRow cX12_printRow 3 none, Cond.methodLink RX12 181 yX12_putMany, Cond.instanceMethod yX12_putMany, Cond.selects RX12 yX12_putMany yX12_putMany, Cond.code yX12_putMany cX12_putMany 4 none, Cond.methodLink RX12 206 yX12_undo, Cond.instanceMethod yX12_undo, Cond.selects RX12 yX12_undo yX12_undo, Cond.code yX12_undo cX12_undo 8 none, Cond.methodLink RX12 209 yX12_printWhole]
def wsL_law0_r31 : List Cond := [Cond.instanceMethod yX12_printWhole, Cond.selects RX12 yX12_printWhole yX12_printWhole, Cond.code yX12_printWhole cX12_printWhole 13 none, Cond.methodLink RX12 185 yX12_putDigits, Cond.instanceMethod yX12_putDigits, Cond.selects RX12 yX12_putDigits yX12_putDigits, Cond.code yX12_putDigits cX12_putDigits 2 none, Cond.methodLink RX12 227 yX12_end, Cond.instanceMethod yX12_end, Cond.selects RX12 yX12_end yX12_end, Cond.code yX12_end cX12_end 1 (some .int), Cond.methodLink RL 95 yX11_odd, Cond.instanceMethod yX11_odd, Cond.selects RX11 yX11_odd yX11_odd, Cond.code yX11_odd cX11_odd 1 (some .int), Cond.methodLink RL 98 yX12_odd, Cond.instanceMethod yX12_odd, Cond.selects RX12 yX12_odd yX12_odd, Cond.code yX12_odd cX12_odd 1 (some .int), Cond.methodLink RL 99 yL_feed, Cond.static yL_feed, Cond.codeWith yL_feed cL_feed 8 (some .int) [(0, 16, 19, 27), (0, 16, 23, 13)], Cond.methodLink RL 29 yX11_feed, Cond.instanceMethod yX11_feed]
def wsL_law0_r32 : List Cond := [Cond.selects RX11 yX11_feed yX11_feed, Cond.code yX11_feed cX11_feed 6 (some .int), Cond.methodLink RX11 131 yX11_feedWord, Cond.instanceMethod yX11_feedWord, Cond.selects RX11 yX11_feedWord yX11_feedWord, Cond.code yX11_feedWord cX11_feedWord 4 none, Cond.methodLink RL 101 yX12_feed, Cond.instanceMethod yX12_feed, Cond.selects RX12 yX12_feed yX12_feed, Cond.code yX12_feed cX12_feed 8 (some .int), Cond.fieldLink RX12 230 "FormatDumpModel" "dataSize" "I", Cond.methodLink RL 102 yL_cut, Cond.static yL_cut, Cond.codeWith yL_cut cL_cut 4 (some .int) [(0, 9, 12, 27)], Cond.methodLink RL 32 yX11_cut, Cond.instanceMethod yX11_cut, Cond.selects RX11 yX11_cut yX11_cut, Cond.code yX11_cut cX11_cut 2 (some .int), Cond.methodLink RX11 135 yX9_keepFirst, Cond.methodLink RL 105 yX12_cut, Cond.instanceMethod yX12_cut, Cond.selects RX12 yX12_cut yX12_cut, Cond.code yX12_cut cX12_cut 3 (some .int), Cond.methodLink RL 106 yL_words]
def wsL_law0_r33 : List Cond := [Cond.static yL_words, Cond.codeWith yL_words cL_words 7 (some .int) [(0, 14, 17, 27)], Cond.methodLink RL 36 yX11_words, Cond.instanceMethod yX11_words, Cond.selects RX11 yX11_words yX11_words, Cond.code yX11_words cX11_words 5 (some .int), Cond.methodLink RX11 138 yX11_isAddressBase, Cond.static yX11_isAddressBase, Cond.code yX11_isAddressBase cX11_isAddressBase 1 (some .boolean), Cond.methodLink RX11 142 yX11_isWord, Cond.static yX11_isWord, Cond.code yX11_isWord cX11_isWord 3 (some .boolean), Cond.methodLink RX11 146 yX10_dump, Cond.instanceMethod yX10_dump, Cond.selects RX10 yX10_dump yX10_dump, Cond.code yX10_dump cX10_dump 7 none, Cond.methodLink RX10 41 yX9_size, Cond.methodLink RX10 45 yX10_isLikeBefore, Cond.instanceMethod yX10_isLikeBefore, Cond.selects RX10 yX10_isLikeBefore yX10_isLikeBefore, Cond.code yX10_isLikeBefore cX10_isLikeBefore 3 (some .boolean), Cond.methodLink RX10 58 yX9_at, Cond.methodLink RX10 49 yX10_writeLine, Cond.instanceMethod yX10_writeLine]
def wsL_law0_r34 : List Cond := [Cond.selects RX10 yX10_writeLine yX10_writeLine, Cond.code yX10_writeLine cX10_writeLine 5 none, Cond.methodLink RX10 62 Lib.Math.min.name, Cond.methodLink RX10 68 Lib.Math.max.name, Cond.methodLink RX10 55 yX10_writeAddress, Cond.instanceMethod yX10_writeAddress, Cond.selects RX10 yX10_writeAddress yX10_writeAddress, Cond.code yX10_writeAddress cX10_writeAddress 2 none, Cond.methodLink RX10 79 yX4_take, Cond.methodLink RX10 85 yX4_writeTo, Cond.methodLink RX10 52 yX9_add, Cond.methodLink RX10 71 yX10_wordAt, Cond.instanceMethod yX10_wordAt, Cond.selects RX10 yX10_wordAt yX10_wordAt, Cond.code yX10_wordAt cX10_wordAt 6 (some .long), Cond.methodLink RX10 75 yX10_writeField, Cond.instanceMethod yX10_writeField, Cond.selects RX10 yX10_writeField yX10_writeField, Cond.code yX10_writeField cX10_writeField 4 none, Cond.methodLink RX10 89 yX9_clear, Cond.methodLink RX10 92 yX10_loadCharacter, Cond.instanceMethod yX10_loadCharacter, Cond.selects RX10 yX10_loadCharacter yX10_loadCharacter, Cond.code yX10_loadCharacter cX10_loadCharacter 3 none]
def wsL_law0_r35 : List Cond := [Cond.methodLink RX10 111 yX10_nameOf, Cond.static yX10_nameOf, Cond.code yX10_nameOf cX10_nameOf 1 (some .int), Cond.static yX11_canBeSeen, Cond.code yX11_canBeSeen cX11_canBeSeen 1 (some .boolean), Cond.methodLink RX10 95 yX10_loadNumber, Cond.instanceMethod yX10_loadNumber, Cond.selects RX10 yX10_loadNumber yX10_loadNumber, Cond.code yX10_loadNumber cX10_loadNumber 5 none, Cond.methodLink RX10 105 yX10_fieldBase, Cond.instanceMethod yX10_fieldBase, Cond.selects RX10 yX10_fieldBase yX10_fieldBase, Cond.code yX10_fieldBase cX10_fieldBase 1 (some .int), Cond.methodLink RX10 108 yX10_leastDigits, Cond.instanceMethod yX10_leastDigits, Cond.selects RX10 yX10_leastDigits yX10_leastDigits, Cond.code yX10_leastDigits cX10_leastDigits 1 (some .int), Cond.methodLink RX10 98 yX10_fieldWidth, Cond.instanceMethod yX10_fieldWidth, Cond.selects RX10 yX10_fieldWidth yX10_fieldWidth, Cond.code yX10_fieldWidth cX10_fieldWidth 1 (some .int), Cond.methodLink RX10 117 yX10_decimalWidth, Cond.instanceMethod yX10_decimalWidth, Cond.selects RX10 yX10_decimalWidth yX10_decimalWidth]
def wsL_law0_r36 : List Cond := [Cond.code yX10_decimalWidth cX10_decimalWidth 1 (some .int), Cond.methodLink RX10 101 yX9_addMany, Cond.methodLink RL 109 yX12_words, Cond.instanceMethod yX12_words, Cond.selects RX12 yX12_words yX12_words, Cond.code yX12_words cX12_words 9 (some .int), Cond.methodLink RX12 244 yX12_isLikeBefore, Cond.instanceMethod yX12_isLikeBefore, Cond.selects RX12 yX12_isLikeBefore yX12_isLikeBefore, Cond.code yX12_isLikeBefore cX12_isLikeBefore 4 (some .boolean), Cond.methodLink RX12 247 yX12_putAddress, Cond.instanceMethod yX12_putAddress, Cond.selects RX12 yX12_putAddress yX12_putAddress, Cond.code yX12_putAddress cX12_putAddress 4 none, Cond.methodLink RX12 251 yX12_putField, Cond.instanceMethod yX12_putField, Cond.selects RX12 yX12_putField yX12_putField, Cond.code yX12_putField cX12_putField 11 none, Cond.methodLink RX12 233 yX12_index, Cond.static yX12_index, Cond.code yX12_index cX12_index 1 (some .int), Cond.methodLink RX12 237 yX12_choose, Cond.static yX12_choose, Cond.code yX12_choose cX12_choose 5 (some .int)]
def wsL_law0_r37 : List Cond := [Cond.methodLink RX12 241 yX12_putShown, Cond.instanceMethod yX12_putShown, Cond.selects RX12 yX12_putShown yX12_putShown, Cond.code yX12_putShown cX12_putShown 3 none, Cond.methodLink RL 110 yL_pairs, Cond.static yL_pairs, Cond.codeWith yL_pairs cL_pairs 6 (some .int) [(0, 12, 15, 27)], Cond.methodLink RL 40 yX11_pairs, Cond.instanceMethod yX11_pairs, Cond.selects RX11 yX11_pairs yX11_pairs, Cond.code yX11_pairs cX11_pairs 4 (some .int), Cond.methodLink RX11 150 yX11_isShape, Cond.static yX11_isShape, Cond.code yX11_isShape cX11_isShape 2 (some .boolean), Cond.methodLink RX11 154 yX11_groupOf, Cond.static yX11_groupOf, Cond.code yX11_groupOf cX11_groupOf 2 (some .int), Cond.methodLink RX11 158 yX6_dump, Cond.instanceMethod yX6_dump, Cond.selects RX6 yX6_dump yX6_dump, Cond.code yX6_dump cX6_dump 9 none, Cond.methodLink RX6 26 Lib.Math.max.name, Cond.methodLink RX6 37 Lib.Math.min.name, Cond.static yX11_pairsWidth]
def wsL_law0_r38 : List Cond := [Cond.code yX11_pairsWidth cX11_pairsWidth 4 (some .int), Cond.methodLink RX11 195 yX11_endsGroup, Cond.static yX11_endsGroup, Cond.code yX11_endsGroup cX11_endsGroup 3 (some .boolean), Cond.methodLink RX6 31 yX9_size, Cond.methodLink RX6 40 yX6_writeDigits, Cond.instanceMethod yX6_writeDigits, Cond.selects RX6 yX6_writeDigits yX6_writeDigits, Cond.code yX6_writeDigits cX6_writeDigits 4 none, Cond.methodLink RX6 63 yX4_take, Cond.methodLink RX6 69 yX4_writeTo, Cond.methodLink RX6 44 yX9_add, Cond.methodLink RX6 48 yX9_at, Cond.methodLink RX6 56 yX9_addMany, Cond.static yX11_seenAs, Cond.code yX11_seenAs cX11_seenAs 1 (some .int), Cond.methodLink RX11 192 yX11_canBeSeen, Cond.methodLink RL 113 yX12_pairs, Cond.instanceMethod yX12_pairs, Cond.selects RX12 yX12_pairs yX12_pairs, Cond.code yX12_pairs cX12_pairs 8 (some .int), Cond.methodLink RX12 255 yX12_isGroupEnd, Cond.static yX12_isGroupEnd, Cond.code yX12_isGroupEnd cX12_isGroupEnd 3 (some .boolean)]
def wsL_law0_r39 : List Cond := [Cond.methodLink RX12 258 yX12_shown, Cond.static yX12_shown, Cond.code yX12_shown cX12_shown 1 (some .char), Cond.methodLink RL 114 yL_back, Cond.static yL_back, Cond.codeWith yL_back cL_back 5 (some .int) [(0, 10, 13, 27)], Cond.methodLink RL 44 yX11_back, Cond.instanceMethod yX11_back, Cond.selects RX11 yX11_back yX11_back, Cond.code yX11_back cX11_back 4 (some .int), Cond.methodLink RX11 161 yX7_readPage, Cond.instanceMethod yX7_readPage, Cond.selects RX7 yX7_readPage yX7_readPage, Cond.code yX7_readPage cX7_readPage 6 (some .boolean), Cond.methodLink RX7 37 yX9_clear, Cond.methodLink RX7 40 yX9_size, Cond.methodLink RX7 44 yX7_readLine, Cond.instanceMethod yX7_readLine, Cond.selects RX7 yX7_readLine yX7_readLine, Cond.code yX7_readLine cX7_readLine 5 (some .boolean), Cond.methodLink RX7 48 yX7_readAddress, Cond.instanceMethod yX7_readAddress, Cond.selects RX7 yX7_readAddress yX7_readAddress, Cond.code yX7_readAddress cX7_readAddress 2 (some .boolean)]
def wsL_law0_r40 : List Cond := [Cond.methodLink RX7 66 yX9_at, Cond.methodLink RX7 52 yX7_readOne, Cond.instanceMethod yX7_readOne, Cond.selects RX7 yX7_readOne yX7_readOne, Cond.code yX7_readOne cX7_readOne 2 (some .boolean), Cond.methodLink RX7 56 yX7_readPairs, Cond.instanceMethod yX7_readPairs, Cond.selects RX7 yX7_readPairs yX7_readPairs, Cond.code yX7_readPairs cX7_readPairs 4 (some .boolean), Cond.methodLink RX7 72 yX7_readPair, Cond.instanceMethod yX7_readPair, Cond.selects RX7 yX7_readPair yX7_readPair, Cond.code yX7_readPair cX7_readPair 3 (some .boolean), Cond.methodLink RX7 78 yX9_add, Cond.methodLink RX7 60 yX7_readBlanks, Cond.instanceMethod yX7_readBlanks, Cond.selects RX7 yX7_readBlanks yX7_readBlanks, Cond.code yX7_readBlanks cX7_readBlanks 2 (some .boolean), Cond.methodLink RX7 63 yX7_readSeen, Cond.instanceMethod yX7_readSeen, Cond.selects RX7 yX7_readSeen yX7_readSeen, Cond.code yX7_readSeen cX7_readSeen 2 (some .boolean), Cond.methodLink RX11 164 yX7_stop, Cond.instanceMethod yX7_stop]
def wsL_law0_r41 : List Cond := [Cond.selects RX7 yX7_stop yX7_stop, Cond.code yX7_stop cX7_stop 1 (some .int), Cond.methodLink RX11 167 yX7_found, Cond.instanceMethod yX7_found, Cond.selects RX7 yX7_found yX7_found, Cond.code yX7_found cX7_found 1 (some (.object "FormatDump$Row")), Cond.methodLink RX11 174 yX9_copyOf, Cond.methodLink RL 117 yX12_back, Cond.instanceMethod yX12_back, Cond.selects RX12 yX12_back yX12_back, Cond.code yX12_back cX12_back 4 (some .int), Cond.fieldLink RX12 264 "FormatDumpModel" "foundSize" "I", Cond.fieldLink RX12 261 "FormatDumpModel" "read" "I", Cond.methodLink RX12 273 yX12_readLine, Cond.instanceMethod yX12_readLine, Cond.selects RX12 yX12_readLine yX12_readLine, Cond.code yX12_readLine cX12_readLine 8 (some .boolean), Cond.methodLink RX12 267 yX12_hexAt, Cond.instanceMethod yX12_hexAt, Cond.selects RX12 yX12_hexAt yX12_hexAt, Cond.code yX12_hexAt cX12_hexAt 2 (some .int), Cond.methodLink RX12 270 yX12_isNext, Cond.instanceMethod yX12_isNext, Cond.selects RX12 yX12_isNext yX12_isNext]
def wsL_law0_r42 : List Cond := [Cond.code yX12_isNext cX12_isNext 2 (some .boolean), Cond.methodLink RL 118 yL_patch, Cond.static yL_patch, Cond.codeWith yL_patch cL_patch 5 (some .int) [(0, 10, 13, 51), (0, 10, 17, 27)], Cond.classLink RL 51 "java/lang/IndexOutOfBoundsException", Cond.methodLink RL 48 yX11_patch, Cond.instanceMethod yX11_patch, Cond.selects RX11 yX11_patch yX11_patch, Cond.code yX11_patch cX11_patch 4 (some .int), Cond.classLink RX11 180 "java/lang/IndexOutOfBoundsException", Cond.initialized "java/lang/IndexOutOfBoundsException", Cond.methodLink RX11 177 yX9_at, Cond.methodLink RX11 183 yX9_change, Cond.instanceMethod yX9_change, Cond.selects RX9 yX9_change yX9_change, Cond.code yX9_change cX9_change 3 none, Cond.methodLink RL 120 yX12_patch, Cond.instanceMethod yX12_patch, Cond.selects RX12 yX12_patch yX12_patch, Cond.code yX12_patch cX12_patch 4 (some .int), Cond.methodLink RL 121 yL_trim, Cond.static yL_trim, Cond.codeWith yL_trim cL_trim 4 (some .int) [(0, 9, 12, 27)], Cond.methodLink RL 53 yX11_trim]
def wsL_law0_r43 : List Cond := [Cond.instanceMethod yX11_trim, Cond.selects RX11 yX11_trim yX11_trim, Cond.code yX11_trim cX11_trim 2 (some .int), Cond.methodLink RL 123 yX12_trim, Cond.instanceMethod yX12_trim, Cond.selects RX12 yX12_trim yX12_trim, Cond.code yX12_trim cX12_trim 3 (some .int), Cond.methodLink RL 124 yX11_place, Cond.instanceMethod yX11_place, Cond.selects RX11 yX11_place yX11_place, Cond.code yX11_place cX11_place 1 (some .int), Cond.methodLink RL 127 yX12_place, Cond.instanceMethod yX12_place, Cond.selects RX12 yX12_place yX12_place, Cond.code yX12_place cX12_place 1 (some .int), Cond.methodLink RL 128 yX11_output, Cond.instanceMethod yX11_output, Cond.selects RX11 yX11_output yX11_output, Cond.code yX11_output cX11_output 2 (some .int), Cond.methodLink RL 131 yX12_output, Cond.instanceMethod yX12_output, Cond.selects RX12 yX12_output yX12_output, Cond.code yX12_output cX12_output 2 (some .int), Cond.methodLink RL 132 yX11_data]
def wsL_law0_r44 : List Cond := [Cond.instanceMethod yX11_data, Cond.selects RX11 yX11_data yX11_data, Cond.code yX11_data cX11_data 2 (some .int), Cond.methodLink RL 135 yX12_data, Cond.instanceMethod yX12_data, Cond.selects RX12 yX12_data yX12_data, Cond.code yX12_data cX12_data 2 (some .int)]
def wsL_law0 : List Cond := (wsL_law0_r1 ++ (wsL_law0_r2 ++ (wsL_law0_r3 ++ (wsL_law0_r4 ++ (wsL_law0_r5 ++ (wsL_law0_r6 ++ (wsL_law0_r7 ++ (wsL_law0_r8 ++ (wsL_law0_r9 ++ (wsL_law0_r10 ++ (wsL_law0_r11 ++ (wsL_law0_r12 ++ (wsL_law0_r13 ++ (wsL_law0_r14 ++ (wsL_law0_r15 ++ (wsL_law0_r16 ++ (wsL_law0_r17 ++ (wsL_law0_r18 ++ (wsL_law0_r19 ++ (wsL_law0_r20 ++ (wsL_law0_r21 ++ (wsL_law0_r22 ++ (wsL_law0_r23 ++ (wsL_law0_r24 ++ (wsL_law0_r25 ++ (wsL_law0_r26 ++ (wsL_law0_r27 ++ (wsL_law0_r28 ++ (wsL_law0_r29 ++ (wsL_law0_r30 ++ (wsL_law0_r31 ++ (wsL_law0_r32 ++ (wsL_law0_r33 ++ (wsL_law0_r34 ++ (wsL_law0_r35 ++ (wsL_law0_r36 ++ (wsL_law0_r37 ++ (wsL_law0_r38 ++ (wsL_law0_r39 ++ (wsL_law0_r40 ++ (wsL_law0_r41 ++ (wsL_law0_r42 ++ (wsL_law0_r43 ++ wsL_law0_r44))))))))))))))))))))))))))))))))))))))))))) ++ wsX110 ++ wsX120 ++ wsX40 ++ wsX90 ++ wsX10 ++ wsX80 ++ wsX100 ++ wsX60 ++ wsX70 ++ wsX00 ++ wsX50 ++ wsX30 ++ wsX20 ++ ([] : List Cond)
def wsL_law : List Cond := wsL_law0 ++ (vx_at0 RX11 85 "java/lang/IllegalStateException" ["java/lang/RuntimeException", "java/lang/Exception"]).filter goodWord ++ (vx_at0 RX11 105 "java/lang/IllegalArgumentException" ["java/lang/RuntimeException", "java/lang/Exception"]).filter goodWord ++ (vx_at0 RX11 182 "java/lang/IndexOutOfBoundsException" ["java/lang/RuntimeException", "java/lang/Exception"]).filter goodWord
abbrev vwCl : List vw_C := [(RX0, TX0, 3), (RX1, TX1, 5), (RX2, TX2, 12), (RX3, TX3, 2), (RX4, TX4, 3), (RX5, TX5, 2), (RX6, TX6, 3), (RX7, TX7, 5), (RX8, TX8, 8), (RX9, TX9, 4), (RX10, TX10, 7), (RX11, TX11, 10), (RX12, TX12, 36)]
end
section
/-- the good words of the tables, and a method's own word ahead of them -/
def GT : List Cond := lw_tbl.filter goodWord
abbrev gW (y : MethodName) (c : ByteArray) (mx : Nat) (rt : Option FieldType) : List Cond := Cond.code y c mx rt :: GT
theorem GT_t {w : Cond} (h : w ∈ tables_1) (hg : goodWord w = true) : w ∈ GT := List.mem_filter.mpr ⟨List.mem_append_right _ h, hg⟩
theorem GT_s {w : Cond} (h : w ∈ k2_sels lw_privs) (hg : goodWord w = true) : w ∈ GT := List.mem_filter.mpr ⟨List.mem_append_left _ h, hg⟩
theorem GT_1 {w : Cond} (j : Nat) (h : tables_1_1[j]? = some w) (hg : goodWord w = true) : w ∈ GT := GT_t (List.mem_append_left _ (List.mem_of_getElem? h)) hg
theorem GT_2 {w : Cond} (j : Nat) (h : tables_1_2[j]? = some w) (hg : goodWord w = true) : w ∈ GT := GT_t (List.mem_append_right _ (List.mem_append_left _ (List.mem_of_getElem? h))) hg
theorem GT_3 {w : Cond} (j : Nat) (h : tables_1_3[j]? = some w) (hg : goodWord w = true) : w ∈ GT := GT_t (List.mem_append_right _ (List.mem_append_right _ (List.mem_append_left _ (List.mem_of_getElem? h)))) hg
theorem GT_4 {w : Cond} (j : Nat) (h : tables_1_4[j]? = some w) (hg : goodWord w = true) : w ∈ GT := GT_t (List.mem_append_right _ (List.mem_append_right _ (List.mem_append_right _ (List.mem_append_left _ (List.mem_of_getElem? h))))) hg
theorem GT_5 {w : Cond} (j : Nat) (h : tables_1_5[j]? = some w) (hg : goodWord w = true) : w ∈ GT := GT_t (List.mem_append_right _ (List.mem_append_right _ (List.mem_append_right _ (List.mem_append_right _ (List.mem_append_left _ (List.mem_of_getElem? h)))))) hg
theorem GT_6 {w : Cond} (j : Nat) (h : tables_1_6[j]? = some w) (hg : goodWord w = true) : w ∈ GT := GT_t (List.mem_append_right _ (List.mem_append_right _ (List.mem_append_right _ (List.mem_append_right _ (List.mem_append_right _ (List.mem_of_getElem? h)))))) hg
theorem GT_good {big ws : List Cond} (hb : ∀ w ∈ GT, w ∈ big) (hw : ∀ w ∈ ws, w ∈ GT) : GoodIn big ws := fun w h => ⟨hb w (hw w h), good_of_word (List.mem_filter.mp (hw w h)).2⟩
theorem gW_of {y : MethodName} {c : ByteArray} {mx : Nat} {rt : Option FieldType} {w : Cond} (h : w ∈ GT) : w ∈ gW y c mx rt := List.mem_cons_of_mem _ h
theorem gW_sub {y : MethodName} {c : ByteArray} {mx : Nat} {rt : Option FieldType} (h : Cond.code y c mx rt ∈ GT) : ∀ w ∈ gW y c mx rt, w ∈ GT := fun w hw => (List.mem_cons.mp hw).elim (fun e => e ▸ h) id
theorem goodV {y0 y : MethodName} {c0 c : ByteArray} {m0 m9 : Nat} {r0 r9 : Option FieldType} {own C : String} {ix : Nat} (h1 : Cond.methodLink own ix y ∈ GT) (h2 : Cond.instanceMethod y ∈ GT) (h3 : Cond.selects C y y ∈ GT) (h4 : Cond.initialized C ∈ GT) (h5 : Cond.code y c m9 r9 ∈ GT) : GoodIn (gW y0 c0 m0 r0) (wsV own ix C y (gW y c m9 r9)) :=
  GT_good (fun w h => gW_of h) (fun w h => (List.mem_append.mp h).elim (fun h => by
    rcases List.mem_cons.mp h with e | h
    · rw [e]; exact h1
    · rcases List.mem_cons.mp h with e | h
      · rw [e]; exact h2
      · rcases List.mem_cons.mp h with e | h
        · rw [e]; exact h3
        · rw [List.mem_singleton.mp h]; exact h4) (gW_sub h5 w))
theorem goodS {y0 y : MethodName} {c0 c : ByteArray} {m0 m9 : Nat} {r0 r9 : Option FieldType} {own : String} {ix : Nat} (h1 : Cond.methodLink own ix y ∈ GT) (h2 : Cond.static y ∈ GT) (h4 : Cond.initialized own ∈ GT) (h5 : Cond.code y c m9 r9 ∈ GT) : GoodIn (gW y0 c0 m0 r0) (wsS own ix y (gW y c m9 r9)) :=
  GT_good (fun w h => gW_of h) (fun w h => (List.mem_append.mp h).elim (fun h => by
    rcases List.mem_cons.mp h with e | h
    · rw [e]; exact h1
    · rcases List.mem_cons.mp h with e | h
      · rw [e]; exact h2
      · rw [List.mem_singleton.mp h]; exact h4) (gW_sub h5 w))
theorem goodN {y0 y : MethodName} {c0 c : ByteArray} {m0 m9 : Nat} {r0 r9 : Option FieldType} (h5 : Cond.code y c m9 r9 ∈ GT) : GoodIn (gW y0 c0 m0 r0) (gW y c m9 r9) := GT_good (fun w h => gW_of h) (gW_sub h5)
set_option maxRecDepth 20000 in
theorem tm_1_0 : Cond.initialized "FormatDumpLaw" ∈ GT := GT_1 0 rfl rfl
set_option maxRecDepth 20000 in
theorem tm_1_1 : Cond.initialized "FormatDump" ∈ GT := GT_1 1 rfl rfl
set_option maxRecDepth 20000 in
theorem tm_1_2 : Cond.initialized "FormatDump$Figures" ∈ GT := GT_1 2 rfl rfl
set_option maxRecDepth 20000 in
theorem tm_1_3 : Cond.initialized "FormatDump$Row" ∈ GT := GT_1 3 rfl rfl
set_option maxRecDepth 20000 in
theorem tm_1_4 : Cond.initialized "FormatDump$Arguments" ∈ GT := GT_1 4 rfl rfl
set_option maxRecDepth 20000 in
theorem tm_1_5 : Cond.initialized "FormatDump$Argument" ∈ GT := GT_1 5 rfl rfl
set_option maxRecDepth 20000 in
theorem tm_1_6 : Cond.initialized "FormatDump$NumberReading" ∈ GT := GT_1 6 rfl rfl
set_option maxRecDepth 20000 in
theorem tm_1_7 : Cond.initialized "FormatDump$Printer" ∈ GT := GT_1 7 rfl rfl
set_option maxRecDepth 20000 in
theorem tm_1_8 : Cond.initialized "FormatDump$Escape" ∈ GT := GT_1 8 rfl rfl
set_option maxRecDepth 20000 in
theorem tm_1_9 : Cond.initialized "FormatDump$Directive" ∈ GT := GT_1 9 rfl rfl
set_option maxRecDepth 20000 in
theorem tm_1_10 : Cond.initialized "FormatDump$WordDump" ∈ GT := GT_1 10 rfl rfl
set_option maxRecDepth 20000 in
theorem tm_1_11 : Cond.initialized "FormatDump$PairDump" ∈ GT := GT_1 11 rfl rfl
set_option maxRecDepth 20000 in
theorem tm_1_12 : Cond.initialized "FormatDump$PairReader" ∈ GT := GT_1 12 rfl rfl
set_option maxRecDepth 20000 in
theorem tm_1_13 : Cond.initialized "FormatDumpModel" ∈ GT := GT_1 13 rfl rfl
set_option maxRecDepth 20000 in
theorem tm_1_14 : Cond.initialized "java/lang/Throwable" ∈ GT := GT_1 14 rfl rfl
set_option maxRecDepth 20000 in
theorem tm_1_15 : Cond.initialized "java/lang/Exception" ∈ GT := GT_1 15 rfl rfl
set_option maxRecDepth 20000 in
theorem tm_1_16 : Cond.initialized "java/lang/RuntimeException" ∈ GT := GT_1 16 rfl rfl
set_option maxRecDepth 20000 in
theorem tm_1_17 : Cond.initialized "java/lang/IllegalStateException" ∈ GT := GT_1 17 rfl rfl
set_option maxRecDepth 20000 in
theorem tm_1_18 : Cond.initialized "java/lang/IllegalArgumentException" ∈ GT := GT_1 18 rfl rfl
set_option maxRecDepth 20000 in
theorem tm_1_19 : Cond.initialized "java/lang/Math" ∈ GT := GT_1 19 rfl rfl
set_option maxRecDepth 20000 in
theorem tm_1_20 : Cond.initialized "java/lang/IndexOutOfBoundsException" ∈ GT := GT_1 20 rfl rfl
set_option maxRecDepth 20000 in
theorem tm_1_21 : Cond.classLink "FormatDumpLaw" 8 "FormatDump" ∈ GT := GT_1 21 rfl rfl
set_option maxRecDepth 20000 in
theorem tm_1_22 : Cond.instantiable "FormatDump" 10 ∈ GT := GT_1 22 rfl rfl
set_option maxRecDepth 20000 in
theorem tm_1_23 : Cond.methodLink "FormatDumpLaw" 56 yX11_init ∈ GT := GT_1 23 rfl rfl
set_option maxRecDepth 20000 in
theorem tm_1_24 : Cond.instanceMethod yX11_init ∈ GT := GT_1 24 rfl rfl
set_option maxRecDepth 20000 in
theorem tm_1_25 : Cond.code yX11_init cX11_init 2 (Option.none : Option Jvm.ClassFile.FieldType) ∈ GT := GT_1 25 rfl rfl
set_option maxRecDepth 20000 in
theorem tm_1_26 : Cond.methodLink "FormatDump" 1 (⟨"java/lang/Object", "<init>", "()V"⟩ : MethodName) ∈ GT := GT_1 26 rfl rfl
set_option maxRecDepth 20000 in
theorem tm_1_27 : Cond.instanceMethod (⟨"java/lang/Object", "<init>", "()V"⟩ : MethodName) ∈ GT := GT_1 27 rfl rfl
set_option maxRecDepth 20000 in
theorem tm_1_28 : Cond.code (⟨"java/lang/Object", "<init>", "()V"⟩ : MethodName) object_method_1_code 1 (Option.none : Option Jvm.ClassFile.FieldType) ∈ GT := GT_1 28 rfl rfl
set_option maxRecDepth 20000 in
theorem tm_1_29 : Cond.classLink "FormatDump" 7 "FormatDump$Figures" ∈ GT := GT_1 29 rfl rfl
set_option maxRecDepth 20000 in
theorem tm_1_30 : Cond.instantiable "FormatDump$Figures" 3 ∈ GT := GT_1 30 rfl rfl
set_option maxRecDepth 20000 in
theorem tm_1_31 : Cond.methodLink "FormatDump" 9 yX4_init ∈ GT := GT_1 31 rfl rfl
set_option maxRecDepth 20000 in
theorem tm_1_32 : Cond.instanceMethod yX4_init ∈ GT := GT_1 32 rfl rfl
set_option maxRecDepth 20000 in
theorem tm_1_33 : Cond.code yX4_init cX4_init 1 (Option.none : Option Jvm.ClassFile.FieldType) ∈ GT := GT_1 33 rfl rfl
set_option maxRecDepth 20000 in
theorem tm_1_34 : Cond.methodLink "FormatDump$Figures" 3 (⟨"java/lang/Object", "<init>", "()V"⟩ : MethodName) ∈ GT := GT_1 34 rfl rfl
set_option maxRecDepth 20000 in
theorem tm_1_35 : Cond.fieldLink "FormatDump$Figures" 9 "FormatDump$Figures" "lowestFirst" "[I" ∈ GT := GT_1 35 rfl rfl
set_option maxRecDepth 20000 in
theorem tm_1_36 : Cond.fieldLink "FormatDump$Figures" 15 "FormatDump$Figures" "size" "I" ∈ GT := GT_1 36 rfl rfl
set_option maxRecDepth 20000 in
theorem tm_1_37 : Cond.fieldLink "FormatDump$Figures" 19 "FormatDump$Figures" "large" "Z" ∈ GT := GT_1 37 rfl rfl
set_option maxRecDepth 20000 in
theorem tm_1_45 : Cond.arrayClass Jvm.ClassFile.FieldType.int ∈ GT := GT_1 45 rfl rfl
set_option maxRecDepth 20000 in
theorem tm_1_46 : Cond.classLink "FormatDump" 10 "FormatDump$Row" ∈ GT := GT_1 46 rfl rfl
set_option maxRecDepth 20000 in
theorem tm_1_47 : Cond.instantiable "FormatDump$Row" 4 ∈ GT := GT_1 47 rfl rfl
set_option maxRecDepth 20000 in
theorem tm_1_48 : Cond.methodLink "FormatDump" 14 yX9_init ∈ GT := GT_1 48 rfl rfl
set_option maxRecDepth 20000 in
theorem tm_1_49 : Cond.instanceMethod yX9_init ∈ GT := GT_1 49 rfl rfl
set_option maxRecDepth 20000 in
theorem tm_1_50 : Cond.code yX9_init cX9_init 2 (Option.none : Option Jvm.ClassFile.FieldType) ∈ GT := GT_1 50 rfl rfl
set_option maxRecDepth 20000 in
theorem tm_1_51 : Cond.methodLink "FormatDump$Row" 3 (⟨"java/lang/Object", "<init>", "()V"⟩ : MethodName) ∈ GT := GT_1 51 rfl rfl
set_option maxRecDepth 20000 in
theorem tm_1_52 : Cond.fieldLink "FormatDump$Row" 9 "FormatDump$Row" "cells" "[I" ∈ GT := GT_1 52 rfl rfl
set_option maxRecDepth 20000 in
theorem tm_1_53 : Cond.fieldLink "FormatDump$Row" 15 "FormatDump$Row" "limit" "I" ∈ GT := GT_1 53 rfl rfl
set_option maxRecDepth 20000 in
theorem tm_1_54 : Cond.fieldLink "FormatDump$Row" 19 "FormatDump$Row" "size" "I" ∈ GT := GT_1 54 rfl rfl
set_option maxRecDepth 20000 in
theorem tm_1_55 : Cond.fieldLink "FormatDump$Row" 22 "FormatDump$Row" "over" "Z" ∈ GT := GT_1 55 rfl rfl
set_option maxRecDepth 20000 in
theorem tm_1_65 : Cond.classLink "FormatDump" 27 "FormatDump$Arguments" ∈ GT := GT_1 65 rfl rfl
set_option maxRecDepth 20000 in
theorem tm_1_66 : Cond.instantiable "FormatDump$Arguments" 5 ∈ GT := GT_1 66 rfl rfl
set_option maxRecDepth 20000 in
theorem tm_1_67 : Cond.methodLink "FormatDump" 29 yX1_init ∈ GT := GT_1 67 rfl rfl
set_option maxRecDepth 20000 in
theorem tm_1_68 : Cond.instanceMethod yX1_init ∈ GT := GT_1 68 rfl rfl
set_option maxRecDepth 20000 in
theorem tm_1_69 : Cond.code yX1_init cX1_init 2 (Option.none : Option Jvm.ClassFile.FieldType) ∈ GT := GT_1 69 rfl rfl
set_option maxRecDepth 20000 in
theorem tm_1_70 : Cond.methodLink "FormatDump$Arguments" 3 (⟨"java/lang/Object", "<init>", "()V"⟩ : MethodName) ∈ GT := GT_1 70 rfl rfl
set_option maxRecDepth 20000 in
theorem tm_1_71 : Cond.classLink "FormatDump$Arguments" 9 "FormatDump$Argument" ∈ GT := GT_1 71 rfl rfl
set_option maxRecDepth 20000 in
theorem tm_1_73 : Cond.instantiable "FormatDump$Argument" 3 ∈ GT := GT_1 73 rfl rfl
set_option maxRecDepth 20000 in
theorem tm_1_74 : Cond.methodLink "FormatDump$Arguments" 17 yX0_init ∈ GT := GT_1 74 rfl rfl
set_option maxRecDepth 20000 in
theorem tm_1_75 : Cond.instanceMethod yX0_init ∈ GT := GT_1 75 rfl rfl
set_option maxRecDepth 20000 in
theorem tm_1_76 : Cond.code yX0_init cX0_init 1 (Option.none : Option Jvm.ClassFile.FieldType) ∈ GT := GT_1 76 rfl rfl
set_option maxRecDepth 20000 in
theorem tm_1_77 : Cond.methodLink "FormatDump$Argument" 3 (⟨"java/lang/Object", "<init>", "()V"⟩ : MethodName) ∈ GT := GT_1 77 rfl rfl
set_option maxRecDepth 20000 in
theorem tm_1_78 : Cond.classLink "FormatDump$Argument" 9 "FormatDump$Row" ∈ GT := GT_1 78 rfl rfl
set_option maxRecDepth 20000 in
theorem tm_1_79 : Cond.methodLink "FormatDump$Argument" 11 yX9_init ∈ GT := GT_1 79 rfl rfl
set_option maxRecDepth 20000 in
theorem tm_1_80 : Cond.fieldLink "FormatDump$Argument" 14 "FormatDump$Argument" "characters" "LFormatDump$Row;" ∈ GT := GT_1 80 rfl rfl
set_option maxRecDepth 20000 in
theorem tm_1_81 : Cond.fieldLink "FormatDump$Arguments" 43 "FormatDump$Argument" "characters" "LFormatDump$Row;" ∈ GT := GT_1 81 rfl rfl
set_option maxRecDepth 20000 in
theorem tm_1_82 : Cond.fieldLink "FormatDump$Printer" 145 "FormatDump$Argument" "characters" "LFormatDump$Row;" ∈ GT := GT_1 82 rfl rfl
set_option maxRecDepth 20000 in
theorem tm_1_83 : Cond.fieldLink "FormatDump$Argument" 20 "FormatDump$Argument" "isText" "Z" ∈ GT := GT_1 83 rfl rfl
set_option maxRecDepth 20000 in
theorem tm_1_84 : Cond.fieldLink "FormatDump$Arguments" 35 "FormatDump$Argument" "isText" "Z" ∈ GT := GT_1 84 rfl rfl
set_option maxRecDepth 20000 in
theorem tm_1_85 : Cond.fieldLink "FormatDump$Printer" 137 "FormatDump$Argument" "isText" "Z" ∈ GT := GT_1 85 rfl rfl
set_option maxRecDepth 20000 in
theorem tm_1_86 : Cond.fieldLink "FormatDump$Argument" 24 "FormatDump$Argument" "value" "J" ∈ GT := GT_1 86 rfl rfl
set_option maxRecDepth 20000 in
theorem tm_1_87 : Cond.fieldLink "FormatDump$Arguments" 39 "FormatDump$Argument" "value" "J" ∈ GT := GT_1 87 rfl rfl
set_option maxRecDepth 20000 in
theorem tm_1_88 : Cond.fieldLink "FormatDump$Printer" 142 "FormatDump$Argument" "value" "J" ∈ GT := GT_1 88 rfl rfl
set_option maxRecDepth 20000 in
theorem tm_1_96 : Cond.classLink "FormatDump$Arguments" 18 "FormatDump$NumberReading" ∈ GT := GT_1 96 rfl rfl
set_option maxRecDepth 20000 in
theorem tm_1_97 : Cond.instantiable "FormatDump$NumberReading" 2 ∈ GT := GT_1 97 rfl rfl
set_option maxRecDepth 20000 in
theorem tm_1_98 : Cond.methodLink "FormatDump$Arguments" 20 yX5_init ∈ GT := GT_1 98 rfl rfl
set_option maxRecDepth 20000 in
theorem tm_1_99 : Cond.instanceMethod yX5_init ∈ GT := GT_1 99 rfl rfl
set_option maxRecDepth 20000 in
theorem tm_1_100 : Cond.code yX5_init cX5_init 1 (Option.none : Option Jvm.ClassFile.FieldType) ∈ GT := GT_1 100 rfl rfl
set_option maxRecDepth 20000 in
theorem tm_1_101 : Cond.methodLink "FormatDump$NumberReading" 3 (⟨"java/lang/Object", "<init>", "()V"⟩ : MethodName) ∈ GT := GT_1 101 rfl rfl
set_option maxRecDepth 20000 in
theorem tm_1_102 : Cond.fieldLink "FormatDump$NumberReading" 9 "FormatDump$NumberReading" "value" "J" ∈ GT := GT_1 102 rfl rfl
set_option maxRecDepth 20000 in
theorem tm_1_103 : Cond.fieldLink "FormatDump$NumberReading" 15 "FormatDump$NumberReading" "odd" "Z" ∈ GT := GT_1 103 rfl rfl
set_option maxRecDepth 20000 in
theorem tm_1_109 : Cond.fieldLink "FormatDump$Arguments" 11 "FormatDump$Arguments" "all" "[LFormatDump$Argument;" ∈ GT := GT_1 109 rfl rfl
set_option maxRecDepth 20000 in
theorem tm_1_110 : Cond.fieldLink "FormatDump$Arguments" 21 "FormatDump$Arguments" "reading" "LFormatDump$NumberReading;" ∈ GT := GT_1 110 rfl rfl
set_option maxRecDepth 20000 in
theorem tm_1_111 : Cond.fieldLink "FormatDump$Arguments" 25 "FormatDump$Arguments" "count" "I" ∈ GT := GT_1 111 rfl rfl
set_option maxRecDepth 20000 in
theorem tm_1_112 : Cond.fieldLink "FormatDump$Arguments" 29 "FormatDump$Arguments" "taken" "I" ∈ GT := GT_1 112 rfl rfl
set_option maxRecDepth 20000 in
theorem tm_1_113 : Cond.fieldLink "FormatDump$Arguments" 32 "FormatDump$Arguments" "oddTexts" "I" ∈ GT := GT_1 113 rfl rfl
set_option maxRecDepth 20000 in
theorem tm_1_125 : Cond.classLink "FormatDump" 34 "FormatDump$Printer" ∈ GT := GT_1 125 rfl rfl
set_option maxRecDepth 20000 in
theorem tm_1_126 : Cond.instantiable "FormatDump$Printer" 8 ∈ GT := GT_1 126 rfl rfl
set_option maxRecDepth 20000 in
theorem tm_1_127 : Cond.methodLink "FormatDump" 36 yX8_init ∈ GT := GT_1 127 rfl rfl
set_option maxRecDepth 20000 in
theorem tm_1_128 : Cond.instanceMethod yX8_init ∈ GT := GT_1 128 rfl rfl
set_option maxRecDepth 20000 in
theorem tm_1_129 : Cond.code yX8_init cX8_init 4 (Option.none : Option Jvm.ClassFile.FieldType) ∈ GT := GT_1 129 rfl rfl
set_option maxRecDepth 20000 in
theorem tm_1_130 : Cond.methodLink "FormatDump$Printer" 3 (⟨"java/lang/Object", "<init>", "()V"⟩ : MethodName) ∈ GT := GT_1 130 rfl rfl
set_option maxRecDepth 20000 in
theorem tm_1_131 : Cond.classLink "FormatDump$Printer" 23 "FormatDump$Escape" ∈ GT := GT_1 131 rfl rfl
set_option maxRecDepth 20000 in
theorem tm_1_132 : Cond.instantiable "FormatDump$Escape" 2 ∈ GT := GT_1 132 rfl rfl
set_option maxRecDepth 20000 in
theorem tm_1_133 : Cond.methodLink "FormatDump$Printer" 25 yX3_init ∈ GT := GT_1 133 rfl rfl
set_option maxRecDepth 20000 in
theorem tm_1_134 : Cond.instanceMethod yX3_init ∈ GT := GT_1 134 rfl rfl
set_option maxRecDepth 20000 in
theorem tm_1_135 : Cond.code yX3_init cX3_init 1 (Option.none : Option Jvm.ClassFile.FieldType) ∈ GT := GT_1 135 rfl rfl
set_option maxRecDepth 20000 in
theorem tm_1_136 : Cond.methodLink "FormatDump$Escape" 3 (⟨"java/lang/Object", "<init>", "()V"⟩ : MethodName) ∈ GT := GT_1 136 rfl rfl
set_option maxRecDepth 20000 in
theorem tm_1_137 : Cond.fieldLink "FormatDump$Escape" 9 "FormatDump$Escape" "value" "I" ∈ GT := GT_1 137 rfl rfl
set_option maxRecDepth 20000 in
theorem tm_1_138 : Cond.fieldLink "FormatDump$Escape" 15 "FormatDump$Escape" "end" "I" ∈ GT := GT_1 138 rfl rfl
set_option maxRecDepth 20000 in
theorem tm_1_144 : Cond.classLink "FormatDump$Printer" 30 "FormatDump$Directive" ∈ GT := GT_1 144 rfl rfl
set_option maxRecDepth 20000 in
theorem tm_1_145 : Cond.instantiable "FormatDump$Directive" 12 ∈ GT := GT_1 145 rfl rfl
set_option maxRecDepth 20000 in
theorem tm_1_146 : Cond.methodLink "FormatDump$Printer" 32 yX2_init ∈ GT := GT_1 146 rfl rfl
set_option maxRecDepth 20000 in
theorem tm_1_147 : Cond.instanceMethod yX2_init ∈ GT := GT_1 147 rfl rfl
set_option maxRecDepth 20000 in
theorem tm_1_148 : Cond.code yX2_init cX2_init 1 (Option.none : Option Jvm.ClassFile.FieldType) ∈ GT := GT_1 148 rfl rfl
set_option maxRecDepth 20000 in
theorem tm_1_149 : Cond.methodLink "FormatDump$Directive" 3 (⟨"java/lang/Object", "<init>", "()V"⟩ : MethodName) ∈ GT := GT_1 149 rfl rfl
set_option maxRecDepth 20000 in
theorem tm_1_150 : Cond.methodLink "FormatDump$Directive" 9 yX2_forget ∈ GT := GT_1 150 rfl rfl
set_option maxRecDepth 20000 in
theorem tm_1_152 : Cond.instanceMethod yX2_forget ∈ GT := GT_1 152 rfl rfl
set_option maxRecDepth 20000 in
theorem tm_1_153 : Cond.code yX2_forget cX2_forget 1 (Option.none : Option Jvm.ClassFile.FieldType) ∈ GT := GT_1 153 rfl rfl
set_option maxRecDepth 20000 in
theorem tm_1_154 : Cond.fieldLink "FormatDump$Directive" 51 "FormatDump$Directive" "flagLeft" "Z" ∈ GT := GT_1 154 rfl rfl
set_option maxRecDepth 20000 in
theorem tm_1_155 : Cond.fieldLink "FormatDump$Printer" 177 "FormatDump$Directive" "flagLeft" "Z" ∈ GT := GT_1 155 rfl rfl
set_option maxRecDepth 20000 in
theorem tm_1_156 : Cond.fieldLink "FormatDump$Directive" 77 "FormatDump$Directive" "flagPlus" "Z" ∈ GT := GT_1 156 rfl rfl
set_option maxRecDepth 20000 in
theorem tm_1_157 : Cond.fieldLink "FormatDump$Printer" 221 "FormatDump$Directive" "flagPlus" "Z" ∈ GT := GT_1 157 rfl rfl
set_option maxRecDepth 20000 in
theorem tm_1_158 : Cond.fieldLink "FormatDump$Directive" 80 "FormatDump$Directive" "flagBlank" "Z" ∈ GT := GT_1 158 rfl rfl
set_option maxRecDepth 20000 in
theorem tm_1_159 : Cond.fieldLink "FormatDump$Printer" 224 "FormatDump$Directive" "flagBlank" "Z" ∈ GT := GT_1 159 rfl rfl
set_option maxRecDepth 20000 in
theorem tm_1_160 : Cond.fieldLink "FormatDump$Directive" 83 "FormatDump$Directive" "flagMark" "Z" ∈ GT := GT_1 160 rfl rfl
set_option maxRecDepth 20000 in
theorem tm_1_161 : Cond.fieldLink "FormatDump$Printer" 198 "FormatDump$Directive" "flagMark" "Z" ∈ GT := GT_1 161 rfl rfl
set_option maxRecDepth 20000 in
theorem tm_1_162 : Cond.fieldLink "FormatDump$Directive" 47 "FormatDump$Directive" "flagZero" "Z" ∈ GT := GT_1 162 rfl rfl
set_option maxRecDepth 20000 in
theorem tm_1_163 : Cond.fieldLink "FormatDump$Printer" 94 "FormatDump$Directive" "starWidth" "Z" ∈ GT := GT_1 163 rfl rfl
set_option maxRecDepth 20000 in
theorem tm_1_164 : Cond.fieldLink "FormatDump$Directive" 86 "FormatDump$Directive" "starWidth" "Z" ∈ GT := GT_1 164 rfl rfl
set_option maxRecDepth 20000 in
theorem tm_1_165 : Cond.fieldLink "FormatDump$Printer" 105 "FormatDump$Directive" "starPrecision" "Z" ∈ GT := GT_1 165 rfl rfl
set_option maxRecDepth 20000 in
theorem tm_1_166 : Cond.fieldLink "FormatDump$Directive" 89 "FormatDump$Directive" "starPrecision" "Z" ∈ GT := GT_1 166 rfl rfl
set_option maxRecDepth 20000 in
theorem tm_1_167 : Cond.fieldLink "FormatDump$Directive" 61 "FormatDump$Directive" "width" "I" ∈ GT := GT_1 167 rfl rfl
set_option maxRecDepth 20000 in
theorem tm_1_168 : Cond.fieldLink "FormatDump$Printer" 174 "FormatDump$Directive" "width" "I" ∈ GT := GT_1 168 rfl rfl
set_option maxRecDepth 20000 in
theorem tm_1_169 : Cond.fieldLink "FormatDump$Directive" 54 "FormatDump$Directive" "precision" "I" ∈ GT := GT_1 169 rfl rfl
set_option maxRecDepth 20000 in
theorem tm_1_170 : Cond.fieldLink "FormatDump$Printer" 168 "FormatDump$Directive" "precision" "I" ∈ GT := GT_1 170 rfl rfl
set_option maxRecDepth 20000 in
theorem tm_1_171 : Cond.fieldLink "FormatDump$Directive" 92 "FormatDump$Directive" "bits" "I" ∈ GT := GT_1 171 rfl rfl
set_option maxRecDepth 20000 in
theorem tm_1_172 : Cond.fieldLink "FormatDump$Printer" 211 "FormatDump$Directive" "bits" "I" ∈ GT := GT_1 172 rfl rfl
set_option maxRecDepth 20000 in
theorem tm_1_173 : Cond.fieldLink "FormatDump$Directive" 37 "FormatDump$Directive" "letter" "I" ∈ GT := GT_1 173 rfl rfl
set_option maxRecDepth 20000 in
theorem tm_1_174 : Cond.fieldLink "FormatDump$Printer" 111 "FormatDump$Directive" "letter" "I" ∈ GT := GT_1 174 rfl rfl
set_option maxRecDepth 20000 in
theorem tm_1_175 : Cond.fieldLink "FormatDump$Directive" 14 "FormatDump$Directive" "end" "I" ∈ GT := GT_1 175 rfl rfl
set_option maxRecDepth 20000 in
theorem tm_1_176 : Cond.fieldLink "FormatDump$Printer" 91 "FormatDump$Directive" "end" "I" ∈ GT := GT_1 176 rfl rfl
set_option maxRecDepth 20000 in
theorem tm_1_202 : Cond.classLink "FormatDump$Printer" 37 "FormatDump$Row" ∈ GT := GT_1 202 rfl rfl
set_option maxRecDepth 20000 in
theorem tm_1_203 : Cond.methodLink "FormatDump$Printer" 39 yX9_init ∈ GT := GT_1 203 rfl rfl
set_option maxRecDepth 20000 in
theorem tm_1_204 : Cond.fieldLink "FormatDump$Printer" 9 "FormatDump$Printer" "page" "LFormatDump$Row;" ∈ GT := GT_1 204 rfl rfl
set_option maxRecDepth 20000 in
theorem tm_1_205 : Cond.fieldLink "FormatDump$Printer" 15 "FormatDump$Printer" "arguments" "LFormatDump$Arguments;" ∈ GT := GT_1 205 rfl rfl
set_option maxRecDepth 20000 in
theorem tm_1_206 : Cond.fieldLink "FormatDump$Printer" 19 "FormatDump$Printer" "figures" "LFormatDump$Figures;" ∈ GT := GT_1 206 rfl rfl
set_option maxRecDepth 20000 in
theorem tm_1_207 : Cond.fieldLink "FormatDump$Printer" 26 "FormatDump$Printer" "escape" "LFormatDump$Escape;" ∈ GT := GT_1 207 rfl rfl
set_option maxRecDepth 20000 in
theorem tm_1_208 : Cond.fieldLink "FormatDump$Printer" 33 "FormatDump$Printer" "directive" "LFormatDump$Directive;" ∈ GT := GT_1 208 rfl rfl
set_option maxRecDepth 20000 in
theorem tm_1_209 : Cond.fieldLink "FormatDump$Printer" 42 "FormatDump$Printer" "piece" "LFormatDump$Row;" ∈ GT := GT_1 209 rfl rfl
set_option maxRecDepth 20000 in
theorem tm_1_210 : Cond.fieldLink "FormatDump$Printer" 45 "FormatDump$Printer" "raw" "LFormatDump$Row;" ∈ GT := GT_1 210 rfl rfl
set_option maxRecDepth 20000 in
theorem tm_1_211 : Cond.fieldLink "FormatDump$Printer" 48 "FormatDump$Printer" "ended" "Z" ∈ GT := GT_1 211 rfl rfl
set_option maxRecDepth 20000 in
theorem tm_1_229 : Cond.classLink "FormatDump" 43 "FormatDump$WordDump" ∈ GT := GT_1 229 rfl rfl
set_option maxRecDepth 20000 in
theorem tm_1_230 : Cond.instantiable "FormatDump$WordDump" 7 ∈ GT := GT_1 230 rfl rfl
set_option maxRecDepth 20000 in
theorem tm_1_231 : Cond.methodLink "FormatDump" 45 yX10_init ∈ GT := GT_1 231 rfl rfl
set_option maxRecDepth 20000 in
theorem tm_1_232 : Cond.instanceMethod yX10_init ∈ GT := GT_1 232 rfl rfl
set_option maxRecDepth 20000 in
theorem tm_1_233 : Cond.code yX10_init cX10_init 4 (Option.none : Option Jvm.ClassFile.FieldType) ∈ GT := GT_1 233 rfl rfl
set_option maxRecDepth 20000 in
theorem tm_1_234 : Cond.methodLink "FormatDump$WordDump" 3 (⟨"java/lang/Object", "<init>", "()V"⟩ : MethodName) ∈ GT := GT_1 234 rfl rfl
set_option maxRecDepth 20000 in
theorem tm_1_235 : Cond.classLink "FormatDump$WordDump" 22 "FormatDump$Row" ∈ GT := GT_1 235 rfl rfl
set_option maxRecDepth 20000 in
theorem tm_1_236 : Cond.methodLink "FormatDump$WordDump" 24 yX9_init ∈ GT := GT_1 236 rfl rfl
set_option maxRecDepth 20000 in
theorem tm_1_237 : Cond.fieldLink "FormatDump$WordDump" 9 "FormatDump$WordDump" "page" "LFormatDump$Row;" ∈ GT := GT_1 237 rfl rfl
set_option maxRecDepth 20000 in
theorem tm_1_238 : Cond.fieldLink "FormatDump$WordDump" 15 "FormatDump$WordDump" "bytes" "LFormatDump$Row;" ∈ GT := GT_1 238 rfl rfl
set_option maxRecDepth 20000 in
theorem tm_1_239 : Cond.fieldLink "FormatDump$WordDump" 18 "FormatDump$WordDump" "figures" "LFormatDump$Figures;" ∈ GT := GT_1 239 rfl rfl
set_option maxRecDepth 20000 in
theorem tm_2_0 : Cond.fieldLink "FormatDump$WordDump" 27 "FormatDump$WordDump" "field" "LFormatDump$Row;" ∈ GT := GT_2 0 rfl rfl
set_option maxRecDepth 20000 in
theorem tm_2_1 : Cond.fieldLink "FormatDump$WordDump" 30 "FormatDump$WordDump" "addressBase" "I" ∈ GT := GT_2 1 rfl rfl
set_option maxRecDepth 20000 in
theorem tm_2_2 : Cond.fieldLink "FormatDump$WordDump" 34 "FormatDump$WordDump" "letter" "C" ∈ GT := GT_2 2 rfl rfl
set_option maxRecDepth 20000 in
theorem tm_2_3 : Cond.fieldLink "FormatDump$WordDump" 38 "FormatDump$WordDump" "wordSize" "I" ∈ GT := GT_2 3 rfl rfl
set_option maxRecDepth 20000 in
theorem tm_2_19 : Cond.classLink "FormatDump" 52 "FormatDump$PairDump" ∈ GT := GT_2 19 rfl rfl
set_option maxRecDepth 20000 in
theorem tm_2_20 : Cond.instantiable "FormatDump$PairDump" 3 ∈ GT := GT_2 20 rfl rfl
set_option maxRecDepth 20000 in
theorem tm_2_21 : Cond.methodLink "FormatDump" 54 yX6_init ∈ GT := GT_2 21 rfl rfl
set_option maxRecDepth 20000 in
theorem tm_2_22 : Cond.instanceMethod yX6_init ∈ GT := GT_2 22 rfl rfl
set_option maxRecDepth 20000 in
theorem tm_2_23 : Cond.code yX6_init cX6_init 4 (Option.none : Option Jvm.ClassFile.FieldType) ∈ GT := GT_2 23 rfl rfl
set_option maxRecDepth 20000 in
theorem tm_2_24 : Cond.methodLink "FormatDump$PairDump" 3 (⟨"java/lang/Object", "<init>", "()V"⟩ : MethodName) ∈ GT := GT_2 24 rfl rfl
set_option maxRecDepth 20000 in
theorem tm_2_25 : Cond.fieldLink "FormatDump$PairDump" 9 "FormatDump$PairDump" "page" "LFormatDump$Row;" ∈ GT := GT_2 25 rfl rfl
set_option maxRecDepth 20000 in
theorem tm_2_26 : Cond.fieldLink "FormatDump$PairDump" 15 "FormatDump$PairDump" "bytes" "LFormatDump$Row;" ∈ GT := GT_2 26 rfl rfl
set_option maxRecDepth 20000 in
theorem tm_2_27 : Cond.fieldLink "FormatDump$PairDump" 18 "FormatDump$PairDump" "figures" "LFormatDump$Figures;" ∈ GT := GT_2 27 rfl rfl
set_option maxRecDepth 20000 in
theorem tm_2_35 : Cond.classLink "FormatDump" 59 "FormatDump$PairReader" ∈ GT := GT_2 35 rfl rfl
set_option maxRecDepth 20000 in
theorem tm_2_36 : Cond.instantiable "FormatDump$PairReader" 5 ∈ GT := GT_2 36 rfl rfl
set_option maxRecDepth 20000 in
theorem tm_2_37 : Cond.methodLink "FormatDump" 61 yX7_init ∈ GT := GT_2 37 rfl rfl
set_option maxRecDepth 20000 in
theorem tm_2_38 : Cond.instanceMethod yX7_init ∈ GT := GT_2 38 rfl rfl
set_option maxRecDepth 20000 in
theorem tm_2_39 : Cond.code yX7_init cX7_init 2 (Option.none : Option Jvm.ClassFile.FieldType) ∈ GT := GT_2 39 rfl rfl
set_option maxRecDepth 20000 in
theorem tm_2_40 : Cond.methodLink "FormatDump$PairReader" 3 (⟨"java/lang/Object", "<init>", "()V"⟩ : MethodName) ∈ GT := GT_2 40 rfl rfl
set_option maxRecDepth 20000 in
theorem tm_2_41 : Cond.classLink "FormatDump$PairReader" 15 "FormatDump$Row" ∈ GT := GT_2 41 rfl rfl
set_option maxRecDepth 20000 in
theorem tm_2_42 : Cond.methodLink "FormatDump$PairReader" 17 yX9_init ∈ GT := GT_2 42 rfl rfl
set_option maxRecDepth 20000 in
theorem tm_2_43 : Cond.fieldLink "FormatDump$PairReader" 9 "FormatDump$PairReader" "page" "LFormatDump$Row;" ∈ GT := GT_2 43 rfl rfl
set_option maxRecDepth 20000 in
theorem tm_2_44 : Cond.fieldLink "FormatDump$PairReader" 20 "FormatDump$PairReader" "found" "LFormatDump$Row;" ∈ GT := GT_2 44 rfl rfl
set_option maxRecDepth 20000 in
theorem tm_2_45 : Cond.fieldLink "FormatDump$PairReader" 23 "FormatDump$PairReader" "lineBytes" "LFormatDump$Row;" ∈ GT := GT_2 45 rfl rfl
set_option maxRecDepth 20000 in
theorem tm_2_46 : Cond.fieldLink "FormatDump$PairReader" 26 "FormatDump$PairReader" "total" "I" ∈ GT := GT_2 46 rfl rfl
set_option maxRecDepth 20000 in
theorem tm_2_47 : Cond.fieldLink "FormatDump$PairReader" 30 "FormatDump$PairReader" "at" "I" ∈ GT := GT_2 47 rfl rfl
set_option maxRecDepth 20000 in
theorem tm_2_59 : Cond.fieldLink "FormatDump" 17 "FormatDump" "line" "LFormatDump$Row;" ∈ GT := GT_2 59 rfl rfl
set_option maxRecDepth 20000 in
theorem tm_2_60 : Cond.fieldLink "FormatDump" 21 "FormatDump" "page" "LFormatDump$Row;" ∈ GT := GT_2 60 rfl rfl
set_option maxRecDepth 20000 in
theorem tm_2_61 : Cond.fieldLink "FormatDump" 24 "FormatDump" "bytes" "LFormatDump$Row;" ∈ GT := GT_2 61 rfl rfl
set_option maxRecDepth 20000 in
theorem tm_2_62 : Cond.fieldLink "FormatDump" 30 "FormatDump" "arguments" "LFormatDump$Arguments;" ∈ GT := GT_2 62 rfl rfl
set_option maxRecDepth 20000 in
theorem tm_2_63 : Cond.fieldLink "FormatDump" 39 "FormatDump" "printer" "LFormatDump$Printer;" ∈ GT := GT_2 63 rfl rfl
set_option maxRecDepth 20000 in
theorem tm_2_64 : Cond.fieldLink "FormatDump" 48 "FormatDump" "wordDump" "LFormatDump$WordDump;" ∈ GT := GT_2 64 rfl rfl
set_option maxRecDepth 20000 in
theorem tm_2_65 : Cond.fieldLink "FormatDump" 55 "FormatDump" "pairDump" "LFormatDump$PairDump;" ∈ GT := GT_2 65 rfl rfl
set_option maxRecDepth 20000 in
theorem tm_2_66 : Cond.fieldLink "FormatDump" 64 "FormatDump" "pairReader" "LFormatDump$PairReader;" ∈ GT := GT_2 66 rfl rfl
set_option maxRecDepth 20000 in
theorem tm_2_67 : Cond.fieldLink "FormatDump" 68 "FormatDump" "faultPlace" "I" ∈ GT := GT_2 67 rfl rfl
set_option maxRecDepth 20000 in
theorem tm_2_68 : Cond.fieldLink "FormatDump" 72 "FormatDump" "oddTexts" "I" ∈ GT := GT_2 68 rfl rfl
set_option maxRecDepth 20000 in
theorem tm_2_90 : Cond.methodLink "FormatDumpLaw" 69 yX11_erase ∈ GT := GT_2 90 rfl rfl
set_option maxRecDepth 20000 in
theorem tm_2_91 : Cond.instanceMethod yX11_erase ∈ GT := GT_2 91 rfl rfl
set_option maxRecDepth 20000 in
theorem tm_2_92 : Cond.selects "FormatDump" yX11_erase yX11_erase ∈ GT := GT_2 92 rfl rfl
set_option maxRecDepth 20000 in
theorem tm_2_93 : Cond.code yX11_erase cX11_erase 2 (Option.some Jvm.ClassFile.FieldType.int) ∈ GT := GT_2 93 rfl rfl
set_option maxRecDepth 20000 in
theorem tm_2_94 : Cond.methodLink "FormatDump" 79 yX9_size ∈ GT := GT_2 94 rfl rfl
set_option maxRecDepth 20000 in
theorem tm_2_95 : Cond.instanceMethod yX9_size ∈ GT := GT_2 95 rfl rfl
set_option maxRecDepth 20000 in
theorem tm_2_96 : Cond.selects "FormatDump$Row" yX9_size yX9_size ∈ GT := GT_2 96 rfl rfl
set_option maxRecDepth 20000 in
theorem tm_2_97 : Cond.code yX9_size cX9_size 1 (Option.some Jvm.ClassFile.FieldType.int) ∈ GT := GT_2 97 rfl rfl
set_option maxRecDepth 20000 in
theorem tm_2_98 : Cond.methodLink "FormatDump" 89 yX9_clear ∈ GT := GT_2 98 rfl rfl
set_option maxRecDepth 20000 in
theorem tm_2_99 : Cond.instanceMethod yX9_clear ∈ GT := GT_2 99 rfl rfl
set_option maxRecDepth 20000 in
theorem tm_2_100 : Cond.selects "FormatDump$Row" yX9_clear yX9_clear ∈ GT := GT_2 100 rfl rfl
set_option maxRecDepth 20000 in
theorem tm_2_101 : Cond.code yX9_clear cX9_clear 1 (Option.none : Option Jvm.ClassFile.FieldType) ∈ GT := GT_2 101 rfl rfl
set_option maxRecDepth 20000 in
theorem tm_2_102 : Cond.methodLink "FormatDumpLaw" 83 yX11_none ∈ GT := GT_2 102 rfl rfl
set_option maxRecDepth 20000 in
theorem tm_2_103 : Cond.instanceMethod yX11_none ∈ GT := GT_2 103 rfl rfl
set_option maxRecDepth 20000 in
theorem tm_2_104 : Cond.selects "FormatDump" yX11_none yX11_none ∈ GT := GT_2 104 rfl rfl
set_option maxRecDepth 20000 in
theorem tm_2_105 : Cond.code yX11_none cX11_none 2 (Option.some Jvm.ClassFile.FieldType.int) ∈ GT := GT_2 105 rfl rfl
set_option maxRecDepth 20000 in
theorem tm_2_106 : Cond.methodLink "FormatDump" 92 yX1_count ∈ GT := GT_2 106 rfl rfl
set_option maxRecDepth 20000 in
theorem tm_2_107 : Cond.instanceMethod yX1_count ∈ GT := GT_2 107 rfl rfl
set_option maxRecDepth 20000 in
theorem tm_2_108 : Cond.selects "FormatDump$Arguments" yX1_count yX1_count ∈ GT := GT_2 108 rfl rfl
set_option maxRecDepth 20000 in
theorem tm_2_109 : Cond.code yX1_count cX1_count 1 (Option.some Jvm.ClassFile.FieldType.int) ∈ GT := GT_2 109 rfl rfl
set_option maxRecDepth 20000 in
theorem tm_2_110 : Cond.methodLink "FormatDump" 102 yX1_clear ∈ GT := GT_2 110 rfl rfl
set_option maxRecDepth 20000 in
theorem tm_2_111 : Cond.instanceMethod yX1_clear ∈ GT := GT_2 111 rfl rfl
set_option maxRecDepth 20000 in
theorem tm_2_112 : Cond.selects "FormatDump$Arguments" yX1_clear yX1_clear ∈ GT := GT_2 112 rfl rfl
set_option maxRecDepth 20000 in
theorem tm_2_113 : Cond.code yX1_clear cX1_clear 1 (Option.none : Option Jvm.ClassFile.FieldType) ∈ GT := GT_2 113 rfl rfl
set_option maxRecDepth 20000 in
theorem tm_2_114 : Cond.methodLink "FormatDumpLaw" 91 yX11_print ∈ GT := GT_2 114 rfl rfl
set_option maxRecDepth 20000 in
theorem tm_2_115 : Cond.instanceMethod yX11_print ∈ GT := GT_2 115 rfl rfl
set_option maxRecDepth 20000 in
theorem tm_2_116 : Cond.selects "FormatDump" yX11_print yX11_print ∈ GT := GT_2 116 rfl rfl
set_option maxRecDepth 20000 in
theorem tm_2_117 : Cond.code yX11_print cX11_print 5 (Option.some Jvm.ClassFile.FieldType.int) ∈ GT := GT_2 117 rfl rfl
set_option maxRecDepth 20000 in
theorem tm_2_118 : Cond.methodLink "FormatDump" 109 yX8_faultIn ∈ GT := GT_2 118 rfl rfl
set_option maxRecDepth 20000 in
theorem tm_2_119 : Cond.instanceMethod yX8_faultIn ∈ GT := GT_2 119 rfl rfl
set_option maxRecDepth 20000 in
theorem tm_2_120 : Cond.selects "FormatDump$Printer" yX8_faultIn yX8_faultIn ∈ GT := GT_2 120 rfl rfl
set_option maxRecDepth 20000 in
theorem tm_2_121 : Cond.code yX8_faultIn cX8_faultIn 5 (Option.some Jvm.ClassFile.FieldType.int) ∈ GT := GT_2 121 rfl rfl
set_option maxRecDepth 20000 in
theorem tm_2_122 : Cond.methodLink "FormatDump$Printer" 52 yX9_size ∈ GT := GT_2 122 rfl rfl
set_option maxRecDepth 20000 in
theorem tm_2_123 : Cond.methodLink "FormatDump$Printer" 56 yX8_readPiece ∈ GT := GT_2 123 rfl rfl
set_option maxRecDepth 20000 in
theorem tm_2_125 : Cond.instanceMethod yX8_readPiece ∈ GT := GT_2 125 rfl rfl
set_option maxRecDepth 20000 in
theorem tm_2_126 : Cond.code yX8_readPiece cX8_readPiece 4 (Option.some Jvm.ClassFile.FieldType.int) ∈ GT := GT_2 126 rfl rfl
set_option maxRecDepth 20000 in
theorem tm_2_127 : Cond.methodLink "FormatDump$Printer" 68 yX9_at ∈ GT := GT_2 127 rfl rfl
set_option maxRecDepth 20000 in
theorem tm_2_128 : Cond.instanceMethod yX9_at ∈ GT := GT_2 128 rfl rfl
set_option maxRecDepth 20000 in
theorem tm_2_129 : Cond.selects "FormatDump$Row" yX9_at yX9_at ∈ GT := GT_2 129 rfl rfl
set_option maxRecDepth 20000 in
theorem tm_2_130 : Cond.code yX9_at cX9_at 2 (Option.some Jvm.ClassFile.FieldType.int) ∈ GT := GT_2 130 rfl rfl
set_option maxRecDepth 20000 in
theorem tm_2_131 : Cond.methodLink "FormatDump$Printer" 81 yX3_readInFormat ∈ GT := GT_2 131 rfl rfl
set_option maxRecDepth 20000 in
theorem tm_2_132 : Cond.instanceMethod yX3_readInFormat ∈ GT := GT_2 132 rfl rfl
set_option maxRecDepth 20000 in
theorem tm_2_133 : Cond.selects "FormatDump$Escape" yX3_readInFormat yX3_readInFormat ∈ GT := GT_2 133 rfl rfl
set_option maxRecDepth 20000 in
theorem tm_2_134 : Cond.code yX3_readInFormat cX3_readInFormat 3 (Option.some Jvm.ClassFile.FieldType.boolean) ∈ GT := GT_2 134 rfl rfl
set_option maxRecDepth 20000 in
theorem tm_2_135 : Cond.methodLink "FormatDump$Escape" 18 yX3_readLetter ∈ GT := GT_2 135 rfl rfl
set_option maxRecDepth 20000 in
theorem tm_2_137 : Cond.instanceMethod yX3_readLetter ∈ GT := GT_2 137 rfl rfl
set_option maxRecDepth 20000 in
theorem tm_2_138 : Cond.code yX3_readLetter cX3_readLetter 3 (Option.some Jvm.ClassFile.FieldType.boolean) ∈ GT := GT_2 138 rfl rfl
set_option maxRecDepth 20000 in
theorem tm_2_139 : Cond.methodLink "FormatDump$Escape" 26 yX9_at ∈ GT := GT_2 139 rfl rfl
set_option maxRecDepth 20000 in
theorem tm_2_140 : Cond.methodLink "FormatDump$Escape" 32 yX3_meaningOf ∈ GT := GT_2 140 rfl rfl
set_option maxRecDepth 20000 in
theorem tm_2_141 : Cond.static yX3_meaningOf ∈ GT := GT_2 141 rfl rfl
set_option maxRecDepth 20000 in
theorem tm_2_142 : Cond.code yX3_meaningOf cX3_meaningOf 1 (Option.some Jvm.ClassFile.FieldType.int) ∈ GT := GT_2 142 rfl rfl
set_option maxRecDepth 20000 in
theorem tm_2_143 : Cond.methodLink "FormatDump$Escape" 22 yX3_readOctal ∈ GT := GT_2 143 rfl rfl
set_option maxRecDepth 20000 in
theorem tm_2_145 : Cond.instanceMethod yX3_readOctal ∈ GT := GT_2 145 rfl rfl
set_option maxRecDepth 20000 in
theorem tm_2_146 : Cond.code yX3_readOctal cX3_readOctal 4 (Option.none : Option Jvm.ClassFile.FieldType) ∈ GT := GT_2 146 rfl rfl
set_option maxRecDepth 20000 in
theorem tm_2_148 : Cond.static yX11_digitOf ∈ GT := GT_2 148 rfl rfl
set_option maxRecDepth 20000 in
theorem tm_2_149 : Cond.code yX11_digitOf cX11_digitOf 3 (Option.some Jvm.ClassFile.FieldType.int) ∈ GT := GT_2 149 rfl rfl
set_option maxRecDepth 20000 in
theorem tm_2_150 : Cond.methodLink "FormatDump$Printer" 85 yX3_end ∈ GT := GT_2 150 rfl rfl
set_option maxRecDepth 20000 in
theorem tm_2_151 : Cond.instanceMethod yX3_end ∈ GT := GT_2 151 rfl rfl
set_option maxRecDepth 20000 in
theorem tm_2_152 : Cond.selects "FormatDump$Escape" yX3_end yX3_end ∈ GT := GT_2 152 rfl rfl
set_option maxRecDepth 20000 in
theorem tm_2_153 : Cond.code yX3_end cX3_end 1 (Option.some Jvm.ClassFile.FieldType.int) ∈ GT := GT_2 153 rfl rfl
set_option maxRecDepth 20000 in
theorem tm_2_154 : Cond.methodLink "FormatDump$Printer" 88 yX2_read ∈ GT := GT_2 154 rfl rfl
set_option maxRecDepth 20000 in
theorem tm_2_155 : Cond.instanceMethod yX2_read ∈ GT := GT_2 155 rfl rfl
set_option maxRecDepth 20000 in
theorem tm_2_156 : Cond.selects "FormatDump$Directive" yX2_read yX2_read ∈ GT := GT_2 156 rfl rfl
set_option maxRecDepth 20000 in
theorem tm_2_157 : Cond.code yX2_read cX2_read 3 (Option.some Jvm.ClassFile.FieldType.boolean) ∈ GT := GT_2 157 rfl rfl
set_option maxRecDepth 20000 in
theorem tm_2_158 : Cond.methodLink "FormatDump$Directive" 18 yX2_readFlags ∈ GT := GT_2 158 rfl rfl
set_option maxRecDepth 20000 in
theorem tm_2_160 : Cond.instanceMethod yX2_readFlags ∈ GT := GT_2 160 rfl rfl
set_option maxRecDepth 20000 in
theorem tm_2_161 : Cond.code yX2_readFlags cX2_readFlags 2 (Option.none : Option Jvm.ClassFile.FieldType) ∈ GT := GT_2 161 rfl rfl
set_option maxRecDepth 20000 in
theorem tm_2_162 : Cond.methodLink "FormatDump$Directive" 95 yX9_size ∈ GT := GT_2 162 rfl rfl
set_option maxRecDepth 20000 in
theorem tm_2_163 : Cond.methodLink "FormatDump$Directive" 31 yX9_at ∈ GT := GT_2 163 rfl rfl
set_option maxRecDepth 20000 in
theorem tm_2_164 : Cond.methodLink "FormatDump$Directive" 99 yX2_noteFlag ∈ GT := GT_2 164 rfl rfl
set_option maxRecDepth 20000 in
theorem tm_2_166 : Cond.instanceMethod yX2_noteFlag ∈ GT := GT_2 166 rfl rfl
set_option maxRecDepth 20000 in
theorem tm_2_167 : Cond.code yX2_noteFlag cX2_noteFlag 2 (Option.some Jvm.ClassFile.FieldType.boolean) ∈ GT := GT_2 167 rfl rfl
set_option maxRecDepth 20000 in
theorem tm_2_168 : Cond.methodLink "FormatDump$Directive" 22 yX2_readWidth ∈ GT := GT_2 168 rfl rfl
set_option maxRecDepth 20000 in
theorem tm_2_170 : Cond.instanceMethod yX2_readWidth ∈ GT := GT_2 170 rfl rfl
set_option maxRecDepth 20000 in
theorem tm_2_171 : Cond.code yX2_readWidth cX2_readWidth 2 (Option.none : Option Jvm.ClassFile.FieldType) ∈ GT := GT_2 171 rfl rfl
set_option maxRecDepth 20000 in
theorem tm_2_172 : Cond.methodLink "FormatDump$Directive" 103 yX2_readTwoDigits ∈ GT := GT_2 172 rfl rfl
set_option maxRecDepth 20000 in
theorem tm_2_174 : Cond.instanceMethod yX2_readTwoDigits ∈ GT := GT_2 174 rfl rfl
set_option maxRecDepth 20000 in
theorem tm_2_175 : Cond.code yX2_readTwoDigits cX2_readTwoDigits 4 (Option.some Jvm.ClassFile.FieldType.int) ∈ GT := GT_2 175 rfl rfl
set_option maxRecDepth 20000 in
theorem tm_2_177 : Cond.methodLink "FormatDump$Directive" 25 yX2_readPrecision ∈ GT := GT_2 177 rfl rfl
set_option maxRecDepth 20000 in
theorem tm_2_179 : Cond.instanceMethod yX2_readPrecision ∈ GT := GT_2 179 rfl rfl
set_option maxRecDepth 20000 in
theorem tm_2_180 : Cond.code yX2_readPrecision cX2_readPrecision 2 (Option.none : Option Jvm.ClassFile.FieldType) ∈ GT := GT_2 180 rfl rfl
set_option maxRecDepth 20000 in
theorem tm_2_181 : Cond.methodLink "FormatDump$Directive" 28 yX2_readLength ∈ GT := GT_2 181 rfl rfl
set_option maxRecDepth 20000 in
theorem tm_2_183 : Cond.instanceMethod yX2_readLength ∈ GT := GT_2 183 rfl rfl
set_option maxRecDepth 20000 in
theorem tm_2_184 : Cond.code yX2_readLength cX2_readLength 3 (Option.none : Option Jvm.ClassFile.FieldType) ∈ GT := GT_2 184 rfl rfl
set_option maxRecDepth 20000 in
theorem tm_2_185 : Cond.methodLink "FormatDump$Directive" 40 yX2_isLetter ∈ GT := GT_2 185 rfl rfl
set_option maxRecDepth 20000 in
theorem tm_2_187 : Cond.instanceMethod yX2_isLetter ∈ GT := GT_2 187 rfl rfl
set_option maxRecDepth 20000 in
theorem tm_2_188 : Cond.code yX2_isLetter cX2_isLetter 1 (Option.some Jvm.ClassFile.FieldType.boolean) ∈ GT := GT_2 188 rfl rfl
set_option maxRecDepth 20000 in
theorem tm_2_189 : Cond.methodLink "FormatDump" 113 yX8_begin ∈ GT := GT_2 189 rfl rfl
set_option maxRecDepth 20000 in
theorem tm_2_190 : Cond.instanceMethod yX8_begin ∈ GT := GT_2 190 rfl rfl
set_option maxRecDepth 20000 in
theorem tm_2_191 : Cond.selects "FormatDump$Printer" yX8_begin yX8_begin ∈ GT := GT_2 191 rfl rfl
set_option maxRecDepth 20000 in
theorem tm_2_192 : Cond.code yX8_begin cX8_begin 1 (Option.none : Option Jvm.ClassFile.FieldType) ∈ GT := GT_2 192 rfl rfl
set_option maxRecDepth 20000 in
theorem tm_2_193 : Cond.methodLink "FormatDump$Printer" 60 yX9_clear ∈ GT := GT_2 193 rfl rfl
set_option maxRecDepth 20000 in
theorem tm_2_194 : Cond.methodLink "FormatDump$Printer" 63 yX1_takeFromFront ∈ GT := GT_2 194 rfl rfl
set_option maxRecDepth 20000 in
theorem tm_2_195 : Cond.instanceMethod yX1_takeFromFront ∈ GT := GT_2 195 rfl rfl
set_option maxRecDepth 20000 in
theorem tm_2_196 : Cond.selects "FormatDump$Arguments" yX1_takeFromFront yX1_takeFromFront ∈ GT := GT_2 196 rfl rfl
set_option maxRecDepth 20000 in
theorem tm_2_197 : Cond.code yX1_takeFromFront cX1_takeFromFront 1 (Option.none : Option Jvm.ClassFile.FieldType) ∈ GT := GT_2 197 rfl rfl
set_option maxRecDepth 20000 in
theorem tm_2_198 : Cond.methodLink "FormatDump" 116 yX1_taken ∈ GT := GT_2 198 rfl rfl
set_option maxRecDepth 20000 in
theorem tm_2_199 : Cond.instanceMethod yX1_taken ∈ GT := GT_2 199 rfl rfl
set_option maxRecDepth 20000 in
theorem tm_2_200 : Cond.selects "FormatDump$Arguments" yX1_taken yX1_taken ∈ GT := GT_2 200 rfl rfl
set_option maxRecDepth 20000 in
theorem tm_2_201 : Cond.code yX1_taken cX1_taken 1 (Option.some Jvm.ClassFile.FieldType.int) ∈ GT := GT_2 201 rfl rfl
set_option maxRecDepth 20000 in
theorem tm_2_202 : Cond.methodLink "FormatDump" 119 yX8_printOnce ∈ GT := GT_2 202 rfl rfl
set_option maxRecDepth 20000 in
theorem tm_2_203 : Cond.instanceMethod yX8_printOnce ∈ GT := GT_2 203 rfl rfl
set_option maxRecDepth 20000 in
theorem tm_2_204 : Cond.selects "FormatDump$Printer" yX8_printOnce yX8_printOnce ∈ GT := GT_2 204 rfl rfl
set_option maxRecDepth 20000 in
theorem tm_2_205 : Cond.code yX8_printOnce cX8_printOnce 6 (Option.none : Option Jvm.ClassFile.FieldType) ∈ GT := GT_2 205 rfl rfl
set_option maxRecDepth 20000 in
theorem tm_2_206 : Cond.methodLink "FormatDump$Printer" 72 yX3_value ∈ GT := GT_2 206 rfl rfl
set_option maxRecDepth 20000 in
theorem tm_2_207 : Cond.instanceMethod yX3_value ∈ GT := GT_2 207 rfl rfl
set_option maxRecDepth 20000 in
theorem tm_2_208 : Cond.selects "FormatDump$Escape" yX3_value yX3_value ∈ GT := GT_2 208 rfl rfl
set_option maxRecDepth 20000 in
theorem tm_2_209 : Cond.code yX3_value cX3_value 1 (Option.some Jvm.ClassFile.FieldType.int) ∈ GT := GT_2 209 rfl rfl
set_option maxRecDepth 20000 in
theorem tm_2_210 : Cond.methodLink "FormatDump$Printer" 75 yX9_add ∈ GT := GT_2 210 rfl rfl
set_option maxRecDepth 20000 in
theorem tm_2_211 : Cond.instanceMethod yX9_add ∈ GT := GT_2 211 rfl rfl
set_option maxRecDepth 20000 in
theorem tm_2_212 : Cond.selects "FormatDump$Row" yX9_add yX9_add ∈ GT := GT_2 212 rfl rfl
set_option maxRecDepth 20000 in
theorem tm_2_213 : Cond.code yX9_add cX9_add 2 (Option.none : Option Jvm.ClassFile.FieldType) ∈ GT := GT_2 213 rfl rfl
set_option maxRecDepth 20000 in
theorem tm_2_214 : Cond.methodLink "FormatDump$Printer" 78 yX8_printDirective ∈ GT := GT_2 214 rfl rfl
set_option maxRecDepth 20000 in
theorem tm_2_216 : Cond.instanceMethod yX8_printDirective ∈ GT := GT_2 216 rfl rfl
set_option maxRecDepth 20000 in
theorem tm_2_217 : Cond.code yX8_printDirective cX8_printDirective 1 (Option.none : Option Jvm.ClassFile.FieldType) ∈ GT := GT_2 217 rfl rfl
set_option maxRecDepth 20000 in
theorem tm_2_218 : Cond.methodLink "FormatDump$Printer" 97 yX1_takeNumber ∈ GT := GT_2 218 rfl rfl
set_option maxRecDepth 20000 in
theorem tm_2_219 : Cond.instanceMethod yX1_takeNumber ∈ GT := GT_2 219 rfl rfl
set_option maxRecDepth 20000 in
theorem tm_2_220 : Cond.selects "FormatDump$Arguments" yX1_takeNumber yX1_takeNumber ∈ GT := GT_2 220 rfl rfl
set_option maxRecDepth 20000 in
theorem tm_2_221 : Cond.code yX1_takeNumber cX1_takeNumber 2 (Option.some Jvm.ClassFile.FieldType.long) ∈ GT := GT_2 221 rfl rfl
set_option maxRecDepth 20000 in
theorem tm_2_222 : Cond.methodLink "FormatDump$Arguments" 53 yX1_takeNext ∈ GT := GT_2 222 rfl rfl
set_option maxRecDepth 20000 in
theorem tm_2_223 : Cond.instanceMethod yX1_takeNext ∈ GT := GT_2 223 rfl rfl
set_option maxRecDepth 20000 in
theorem tm_2_224 : Cond.selects "FormatDump$Arguments" yX1_takeNext yX1_takeNext ∈ GT := GT_2 224 rfl rfl
set_option maxRecDepth 20000 in
theorem tm_2_225 : Cond.code yX1_takeNext cX1_takeNext 1 (Option.some (Jvm.ClassFile.FieldType.object "FormatDump$Argument")) ∈ GT := GT_2 225 rfl rfl
set_option maxRecDepth 20000 in
theorem tm_2_226 : Cond.methodLink "FormatDump$Arguments" 57 yX5_read ∈ GT := GT_2 226 rfl rfl
set_option maxRecDepth 20000 in
theorem tm_2_227 : Cond.instanceMethod yX5_read ∈ GT := GT_2 227 rfl rfl
set_option maxRecDepth 20000 in
theorem tm_2_228 : Cond.selects "FormatDump$NumberReading" yX5_read yX5_read ∈ GT := GT_2 228 rfl rfl
set_option maxRecDepth 20000 in
theorem tm_2_229 : Cond.code yX5_read cX5_read 4 (Option.none : Option Jvm.ClassFile.FieldType) ∈ GT := GT_2 229 rfl rfl
set_option maxRecDepth 20000 in
theorem tm_2_230 : Cond.methodLink "FormatDump$NumberReading" 19 yX9_at ∈ GT := GT_2 230 rfl rfl
set_option maxRecDepth 20000 in
theorem tm_2_231 : Cond.methodLink "FormatDump$NumberReading" 25 yX5_readCharacter ∈ GT := GT_2 231 rfl rfl
set_option maxRecDepth 20000 in
theorem tm_2_233 : Cond.instanceMethod yX5_readCharacter ∈ GT := GT_2 233 rfl rfl
set_option maxRecDepth 20000 in
theorem tm_2_234 : Cond.code yX5_readCharacter cX5_readCharacter 2 (Option.none : Option Jvm.ClassFile.FieldType) ∈ GT := GT_2 234 rfl rfl
set_option maxRecDepth 20000 in
theorem tm_2_235 : Cond.methodLink "FormatDump$NumberReading" 37 yX9_size ∈ GT := GT_2 235 rfl rfl
set_option maxRecDepth 20000 in
theorem tm_2_236 : Cond.methodLink "FormatDump$NumberReading" 29 yX5_readDigits ∈ GT := GT_2 236 rfl rfl
set_option maxRecDepth 20000 in
theorem tm_2_238 : Cond.instanceMethod yX5_readDigits ∈ GT := GT_2 238 rfl rfl
set_option maxRecDepth 20000 in
theorem tm_2_239 : Cond.code yX5_readDigits cX5_readDigits 5 (Option.none : Option Jvm.ClassFile.FieldType) ∈ GT := GT_2 239 rfl rfl
set_option maxRecDepth 20000 in
theorem tm_3_1 : Cond.methodLink "FormatDump$NumberReading" 33 yX5_isHexadecimal ∈ GT := GT_3 1 rfl rfl
set_option maxRecDepth 20000 in
theorem tm_3_2 : Cond.static yX5_isHexadecimal ∈ GT := GT_3 2 rfl rfl
set_option maxRecDepth 20000 in
theorem tm_3_3 : Cond.code yX5_isHexadecimal cX5_isHexadecimal 3 (Option.some Jvm.ClassFile.FieldType.boolean) ∈ GT := GT_3 3 rfl rfl
set_option maxRecDepth 20000 in
theorem tm_3_4 : Cond.methodLink "FormatDump$Arguments" 60 yX5_isOdd ∈ GT := GT_3 4 rfl rfl
set_option maxRecDepth 20000 in
theorem tm_3_5 : Cond.instanceMethod yX5_isOdd ∈ GT := GT_3 5 rfl rfl
set_option maxRecDepth 20000 in
theorem tm_3_6 : Cond.selects "FormatDump$NumberReading" yX5_isOdd yX5_isOdd ∈ GT := GT_3 6 rfl rfl
set_option maxRecDepth 20000 in
theorem tm_3_7 : Cond.code yX5_isOdd cX5_isOdd 1 (Option.some Jvm.ClassFile.FieldType.boolean) ∈ GT := GT_3 7 rfl rfl
set_option maxRecDepth 20000 in
theorem tm_3_8 : Cond.methodLink "FormatDump$Arguments" 64 yX5_value ∈ GT := GT_3 8 rfl rfl
set_option maxRecDepth 20000 in
theorem tm_3_9 : Cond.instanceMethod yX5_value ∈ GT := GT_3 9 rfl rfl
set_option maxRecDepth 20000 in
theorem tm_3_10 : Cond.selects "FormatDump$NumberReading" yX5_value yX5_value ∈ GT := GT_3 10 rfl rfl
set_option maxRecDepth 20000 in
theorem tm_3_11 : Cond.code yX5_value cX5_value 1 (Option.some Jvm.ClassFile.FieldType.long) ∈ GT := GT_3 11 rfl rfl
set_option maxRecDepth 20000 in
theorem tm_3_12 : Cond.methodLink "FormatDump$Printer" 101 yX2_takeWidth ∈ GT := GT_3 12 rfl rfl
set_option maxRecDepth 20000 in
theorem tm_3_13 : Cond.instanceMethod yX2_takeWidth ∈ GT := GT_3 13 rfl rfl
set_option maxRecDepth 20000 in
theorem tm_3_14 : Cond.selects "FormatDump$Directive" yX2_takeWidth yX2_takeWidth ∈ GT := GT_3 14 rfl rfl
set_option maxRecDepth 20000 in
theorem tm_3_15 : Cond.code yX2_takeWidth cX2_takeWidth 4 (Option.none : Option Jvm.ClassFile.FieldType) ∈ GT := GT_3 15 rfl rfl
set_option maxRecDepth 20000 in
theorem tm_3_16 : Cond.methodLink "FormatDump$Directive" 57 yX2_cutToStar ∈ GT := GT_3 16 rfl rfl
set_option maxRecDepth 20000 in
theorem tm_3_17 : Cond.static yX2_cutToStar ∈ GT := GT_3 17 rfl rfl
set_option maxRecDepth 20000 in
theorem tm_3_18 : Cond.code yX2_cutToStar cX2_cutToStar 2 (Option.some Jvm.ClassFile.FieldType.int) ∈ GT := GT_3 18 rfl rfl
set_option maxRecDepth 20000 in
theorem tm_3_19 : Cond.constantLong "FormatDump$Directive" 64 (-99) ∈ GT := GT_3 19 rfl rfl
set_option maxRecDepth 20000 in
theorem tm_3_20 : Cond.constantLong "FormatDump$Directive" 66 (99) ∈ GT := GT_3 20 rfl rfl
set_option maxRecDepth 20000 in
theorem tm_3_21 : Cond.methodLink "FormatDump$Directive" 68 yJ9_min_f86c9 ∈ GT := GT_3 21 rfl rfl
set_option maxRecDepth 20000 in
theorem tm_3_22 : Cond.static yJ9_min_f86c9 ∈ GT := GT_3 22 rfl rfl
set_option maxRecDepth 20000 in
theorem tm_3_23 : Cond.code yJ9_min_f86c9 cJ9_min_f86c9 4 (Option.some Jvm.ClassFile.FieldType.long) ∈ GT := GT_3 23 rfl rfl
set_option maxRecDepth 20000 in
theorem tm_3_24 : Cond.methodLink "FormatDump$Directive" 74 yJ9_max_f86c9 ∈ GT := GT_3 24 rfl rfl
set_option maxRecDepth 20000 in
theorem tm_3_25 : Cond.static yJ9_max_f86c9 ∈ GT := GT_3 25 rfl rfl
set_option maxRecDepth 20000 in
theorem tm_3_26 : Cond.code yJ9_max_f86c9 cJ9_max_f86c9 4 (Option.some Jvm.ClassFile.FieldType.long) ∈ GT := GT_3 26 rfl rfl
set_option maxRecDepth 20000 in
theorem tm_3_27 : Cond.methodLink "FormatDump$Printer" 108 yX2_takePrecision ∈ GT := GT_3 27 rfl rfl
set_option maxRecDepth 20000 in
theorem tm_3_28 : Cond.instanceMethod yX2_takePrecision ∈ GT := GT_3 28 rfl rfl
set_option maxRecDepth 20000 in
theorem tm_3_29 : Cond.selects "FormatDump$Directive" yX2_takePrecision yX2_takePrecision ∈ GT := GT_3 29 rfl rfl
set_option maxRecDepth 20000 in
theorem tm_3_30 : Cond.code yX2_takePrecision cX2_takePrecision 3 (Option.none : Option Jvm.ClassFile.FieldType) ∈ GT := GT_3 30 rfl rfl
set_option maxRecDepth 20000 in
theorem tm_3_31 : Cond.methodLink "FormatDump$Printer" 114 yX1_takeNext ∈ GT := GT_3 31 rfl rfl
set_option maxRecDepth 20000 in
theorem tm_3_32 : Cond.methodLink "FormatDump$Printer" 118 yX8_loadCharacter ∈ GT := GT_3 32 rfl rfl
set_option maxRecDepth 20000 in
theorem tm_3_34 : Cond.instanceMethod yX8_loadCharacter ∈ GT := GT_3 34 rfl rfl
set_option maxRecDepth 20000 in
theorem tm_3_35 : Cond.code yX8_loadCharacter cX8_loadCharacter 2 (Option.none : Option Jvm.ClassFile.FieldType) ∈ GT := GT_3 35 rfl rfl
set_option maxRecDepth 20000 in
theorem tm_3_36 : Cond.methodLink "FormatDump$Printer" 122 yX8_printFilled ∈ GT := GT_3 36 rfl rfl
set_option maxRecDepth 20000 in
theorem tm_3_38 : Cond.instanceMethod yX8_printFilled ∈ GT := GT_3 38 rfl rfl
set_option maxRecDepth 20000 in
theorem tm_3_39 : Cond.code yX8_printFilled cX8_printFilled 3 (Option.none : Option Jvm.ClassFile.FieldType) ∈ GT := GT_3 39 rfl rfl
set_option maxRecDepth 20000 in
theorem tm_3_40 : Cond.methodLink "FormatDump$Printer" 180 yX9_addMany ∈ GT := GT_3 40 rfl rfl
set_option maxRecDepth 20000 in
theorem tm_3_41 : Cond.instanceMethod yX9_addMany ∈ GT := GT_3 41 rfl rfl
set_option maxRecDepth 20000 in
theorem tm_3_42 : Cond.selects "FormatDump$Row" yX9_addMany yX9_addMany ∈ GT := GT_3 42 rfl rfl
set_option maxRecDepth 20000 in
theorem tm_3_43 : Cond.code yX9_addMany cX9_addMany 4 (Option.none : Option Jvm.ClassFile.FieldType) ∈ GT := GT_3 43 rfl rfl
set_option maxRecDepth 20000 in
theorem tm_3_44 : Cond.methodLink "FormatDump$Row" 35 yX9_add ∈ GT := GT_3 44 rfl rfl
set_option maxRecDepth 20000 in
theorem tm_3_45 : Cond.methodLink "FormatDump$Printer" 125 yX8_loadText ∈ GT := GT_3 45 rfl rfl
set_option maxRecDepth 20000 in
theorem tm_3_47 : Cond.instanceMethod yX8_loadText ∈ GT := GT_3 47 rfl rfl
set_option maxRecDepth 20000 in
theorem tm_3_48 : Cond.code yX8_loadText cX8_loadText 2 (Option.none : Option Jvm.ClassFile.FieldType) ∈ GT := GT_3 48 rfl rfl
set_option maxRecDepth 20000 in
theorem tm_3_49 : Cond.methodLink "FormatDump$Printer" 148 yX9_copyOf ∈ GT := GT_3 49 rfl rfl
set_option maxRecDepth 20000 in
theorem tm_3_50 : Cond.instanceMethod yX9_copyOf ∈ GT := GT_3 50 rfl rfl
set_option maxRecDepth 20000 in
theorem tm_3_51 : Cond.selects "FormatDump$Row" yX9_copyOf yX9_copyOf ∈ GT := GT_3 51 rfl rfl
set_option maxRecDepth 20000 in
theorem tm_3_52 : Cond.code yX9_copyOf cX9_copyOf 3 (Option.none : Option Jvm.ClassFile.FieldType) ∈ GT := GT_3 52 rfl rfl
set_option maxRecDepth 20000 in
theorem tm_3_53 : Cond.methodLink "FormatDump$Row" 39 yX9_clear ∈ GT := GT_3 53 rfl rfl
set_option maxRecDepth 20000 in
theorem tm_3_54 : Cond.methodLink "FormatDump$Row" 42 yX9_size ∈ GT := GT_3 54 rfl rfl
set_option maxRecDepth 20000 in
theorem tm_3_55 : Cond.methodLink "FormatDump$Row" 45 yX9_at ∈ GT := GT_3 55 rfl rfl
set_option maxRecDepth 20000 in
theorem tm_3_56 : Cond.methodLink "FormatDump$Printer" 152 yX8_loadNumber ∈ GT := GT_3 56 rfl rfl
set_option maxRecDepth 20000 in
theorem tm_3_58 : Cond.instanceMethod yX8_loadNumber ∈ GT := GT_3 58 rfl rfl
set_option maxRecDepth 20000 in
theorem tm_3_59 : Cond.code yX8_loadNumber cX8_loadNumber 3 (Option.none : Option Jvm.ClassFile.FieldType) ∈ GT := GT_3 59 rfl rfl
set_option maxRecDepth 20000 in
theorem tm_3_60 : Cond.methodLink "FormatDump$Printer" 155 yX4_take ∈ GT := GT_3 60 rfl rfl
set_option maxRecDepth 20000 in
theorem tm_3_61 : Cond.instanceMethod yX4_take ∈ GT := GT_3 61 rfl rfl
set_option maxRecDepth 20000 in
theorem tm_3_62 : Cond.selects "FormatDump$Figures" yX4_take yX4_take ∈ GT := GT_3 62 rfl rfl
set_option maxRecDepth 20000 in
theorem tm_3_63 : Cond.code yX4_take cX4_take 11 (Option.none : Option Jvm.ClassFile.FieldType) ∈ GT := GT_3 63 rfl rfl
set_option maxRecDepth 20000 in
theorem tm_3_64 : Cond.methodLink "FormatDump$Figures" 23 yJ9_max_7cf53 ∈ GT := GT_3 64 rfl rfl
set_option maxRecDepth 20000 in
theorem tm_3_65 : Cond.static yJ9_max_7cf53 ∈ GT := GT_3 65 rfl rfl
set_option maxRecDepth 20000 in
theorem tm_3_66 : Cond.code yJ9_max_7cf53 cJ9_max_7cf53 2 (Option.some Jvm.ClassFile.FieldType.int) ∈ GT := GT_3 66 rfl rfl
set_option maxRecDepth 20000 in
theorem tm_3_67 : Cond.methodLink "FormatDump$Printer" 161 yX4_writeTo ∈ GT := GT_3 67 rfl rfl
set_option maxRecDepth 20000 in
theorem tm_3_68 : Cond.instanceMethod yX4_writeTo ∈ GT := GT_3 68 rfl rfl
set_option maxRecDepth 20000 in
theorem tm_3_69 : Cond.selects "FormatDump$Figures" yX4_writeTo yX4_writeTo ∈ GT := GT_3 69 rfl rfl
set_option maxRecDepth 20000 in
theorem tm_3_70 : Cond.code yX4_writeTo cX4_writeTo 4 (Option.none : Option Jvm.ClassFile.FieldType) ∈ GT := GT_3 70 rfl rfl
set_option maxRecDepth 20000 in
theorem tm_3_71 : Cond.methodLink "FormatDump$Figures" 29 yX4_characterOf ∈ GT := GT_3 71 rfl rfl
set_option maxRecDepth 20000 in
theorem tm_3_73 : Cond.instanceMethod yX4_characterOf ∈ GT := GT_3 73 rfl rfl
set_option maxRecDepth 20000 in
theorem tm_3_74 : Cond.code yX4_characterOf cX4_characterOf 2 (Option.some Jvm.ClassFile.FieldType.int) ∈ GT := GT_3 74 rfl rfl
set_option maxRecDepth 20000 in
theorem tm_3_75 : Cond.methodLink "FormatDump$Figures" 33 yX9_add ∈ GT := GT_3 75 rfl rfl
set_option maxRecDepth 20000 in
theorem tm_3_76 : Cond.methodLink "FormatDump$Printer" 128 yX8_keepPrecision ∈ GT := GT_3 76 rfl rfl
set_option maxRecDepth 20000 in
theorem tm_3_78 : Cond.instanceMethod yX8_keepPrecision ∈ GT := GT_3 78 rfl rfl
set_option maxRecDepth 20000 in
theorem tm_3_79 : Cond.code yX8_keepPrecision cX8_keepPrecision 1 (Option.none : Option Jvm.ClassFile.FieldType) ∈ GT := GT_3 79 rfl rfl
set_option maxRecDepth 20000 in
theorem tm_3_80 : Cond.methodLink "FormatDump$Printer" 171 yX9_keepFirst ∈ GT := GT_3 80 rfl rfl
set_option maxRecDepth 20000 in
theorem tm_3_81 : Cond.instanceMethod yX9_keepFirst ∈ GT := GT_3 81 rfl rfl
set_option maxRecDepth 20000 in
theorem tm_3_82 : Cond.selects "FormatDump$Row" yX9_keepFirst yX9_keepFirst ∈ GT := GT_3 82 rfl rfl
set_option maxRecDepth 20000 in
theorem tm_3_83 : Cond.code yX9_keepFirst cX9_keepFirst 4 (Option.some Jvm.ClassFile.FieldType.int) ∈ GT := GT_3 83 rfl rfl
set_option maxRecDepth 20000 in
theorem tm_3_84 : Cond.methodLink "FormatDump$Row" 26 yJ9_min_7cf53 ∈ GT := GT_3 84 rfl rfl
set_option maxRecDepth 20000 in
theorem tm_3_85 : Cond.static yJ9_min_7cf53 ∈ GT := GT_3 85 rfl rfl
set_option maxRecDepth 20000 in
theorem tm_3_86 : Cond.code yJ9_min_7cf53 cJ9_min_7cf53 2 (Option.some Jvm.ClassFile.FieldType.int) ∈ GT := GT_3 86 rfl rfl
set_option maxRecDepth 20000 in
theorem tm_3_87 : Cond.methodLink "FormatDump$Row" 32 yJ9_max_7cf53 ∈ GT := GT_3 87 rfl rfl
set_option maxRecDepth 20000 in
theorem tm_3_88 : Cond.methodLink "FormatDump$Printer" 131 yX8_unescapePiece ∈ GT := GT_3 88 rfl rfl
set_option maxRecDepth 20000 in
theorem tm_3_90 : Cond.instanceMethod yX8_unescapePiece ∈ GT := GT_3 90 rfl rfl
set_option maxRecDepth 20000 in
theorem tm_3_91 : Cond.code yX8_unescapePiece cX8_unescapePiece 4 (Option.none : Option Jvm.ClassFile.FieldType) ∈ GT := GT_3 91 rfl rfl
set_option maxRecDepth 20000 in
theorem tm_3_92 : Cond.methodLink "FormatDump$Printer" 165 yX3_readInText ∈ GT := GT_3 92 rfl rfl
set_option maxRecDepth 20000 in
theorem tm_3_93 : Cond.instanceMethod yX3_readInText ∈ GT := GT_3 93 rfl rfl
set_option maxRecDepth 20000 in
theorem tm_3_94 : Cond.selects "FormatDump$Escape" yX3_readInText yX3_readInText ∈ GT := GT_3 94 rfl rfl
set_option maxRecDepth 20000 in
theorem tm_3_95 : Cond.code yX3_readInText cX3_readInText 3 (Option.some Jvm.ClassFile.FieldType.boolean) ∈ GT := GT_3 95 rfl rfl
set_option maxRecDepth 20000 in
theorem tm_3_96 : Cond.methodLink "FormatDump$Printer" 134 yX8_printNumber ∈ GT := GT_3 96 rfl rfl
set_option maxRecDepth 20000 in
theorem tm_3_98 : Cond.instanceMethod yX8_printNumber ∈ GT := GT_3 98 rfl rfl
set_option maxRecDepth 20000 in
theorem tm_3_99 : Cond.code yX8_printNumber cX8_printNumber 12 (Option.none : Option Jvm.ClassFile.FieldType) ∈ GT := GT_3 99 rfl rfl
set_option maxRecDepth 20000 in
theorem tm_3_100 : Cond.methodLink "FormatDump$Printer" 184 yX8_narrowed ∈ GT := GT_3 100 rfl rfl
set_option maxRecDepth 20000 in
theorem tm_3_102 : Cond.instanceMethod yX8_narrowed ∈ GT := GT_3 102 rfl rfl
set_option maxRecDepth 20000 in
theorem tm_3_103 : Cond.code yX8_narrowed cX8_narrowed 6 (Option.some Jvm.ClassFile.FieldType.long) ∈ GT := GT_3 103 rfl rfl
set_option maxRecDepth 20000 in
theorem tm_3_104 : Cond.methodLink "FormatDump$Printer" 188 yX2_isSigned ∈ GT := GT_3 104 rfl rfl
set_option maxRecDepth 20000 in
theorem tm_3_105 : Cond.instanceMethod yX2_isSigned ∈ GT := GT_3 105 rfl rfl
set_option maxRecDepth 20000 in
theorem tm_3_106 : Cond.selects "FormatDump$Directive" yX2_isSigned yX2_isSigned ∈ GT := GT_3 106 rfl rfl
set_option maxRecDepth 20000 in
theorem tm_3_107 : Cond.code yX2_isSigned cX2_isSigned 1 (Option.some Jvm.ClassFile.FieldType.boolean) ∈ GT := GT_3 107 rfl rfl
set_option maxRecDepth 20000 in
theorem tm_3_108 : Cond.methodLink "FormatDump$Printer" 192 yX2_base ∈ GT := GT_3 108 rfl rfl
set_option maxRecDepth 20000 in
theorem tm_3_109 : Cond.instanceMethod yX2_base ∈ GT := GT_3 109 rfl rfl
set_option maxRecDepth 20000 in
theorem tm_3_110 : Cond.selects "FormatDump$Directive" yX2_base yX2_base ∈ GT := GT_3 110 rfl rfl
set_option maxRecDepth 20000 in
theorem tm_3_111 : Cond.code yX2_base cX2_base 1 (Option.some Jvm.ClassFile.FieldType.int) ∈ GT := GT_3 111 rfl rfl
set_option maxRecDepth 20000 in
theorem tm_3_112 : Cond.methodLink "FormatDump$Directive" 44 yX2_isHexadecimal ∈ GT := GT_3 112 rfl rfl
set_option maxRecDepth 20000 in
theorem tm_3_113 : Cond.instanceMethod yX2_isHexadecimal ∈ GT := GT_3 113 rfl rfl
set_option maxRecDepth 20000 in
theorem tm_3_114 : Cond.selects "FormatDump$Directive" yX2_isHexadecimal yX2_isHexadecimal ∈ GT := GT_3 114 rfl rfl
set_option maxRecDepth 20000 in
theorem tm_3_115 : Cond.code yX2_isHexadecimal cX2_isHexadecimal 1 (Option.some Jvm.ClassFile.FieldType.boolean) ∈ GT := GT_3 115 rfl rfl
set_option maxRecDepth 20000 in
theorem tm_3_116 : Cond.methodLink "FormatDump$Printer" 195 yX8_digitsDue ∈ GT := GT_3 116 rfl rfl
set_option maxRecDepth 20000 in
theorem tm_3_118 : Cond.instanceMethod yX8_digitsDue ∈ GT := GT_3 118 rfl rfl
set_option maxRecDepth 20000 in
theorem tm_3_119 : Cond.code yX8_digitsDue cX8_digitsDue 3 (Option.some Jvm.ClassFile.FieldType.int) ∈ GT := GT_3 119 rfl rfl
set_option maxRecDepth 20000 in
theorem tm_3_120 : Cond.methodLink "FormatDump$Printer" 214 yX4_size ∈ GT := GT_3 120 rfl rfl
set_option maxRecDepth 20000 in
theorem tm_3_121 : Cond.instanceMethod yX4_size ∈ GT := GT_3 121 rfl rfl
set_option maxRecDepth 20000 in
theorem tm_3_122 : Cond.selects "FormatDump$Figures" yX4_size yX4_size ∈ GT := GT_3 122 rfl rfl
set_option maxRecDepth 20000 in
theorem tm_3_123 : Cond.code yX4_size cX4_size 1 (Option.some Jvm.ClassFile.FieldType.int) ∈ GT := GT_3 123 rfl rfl
set_option maxRecDepth 20000 in
theorem tm_3_124 : Cond.methodLink "FormatDump$Printer" 215 yJ9_max_7cf53 ∈ GT := GT_3 124 rfl rfl
set_option maxRecDepth 20000 in
theorem tm_3_125 : Cond.methodLink "FormatDump$Printer" 201 yX2_isHexadecimal ∈ GT := GT_3 125 rfl rfl
set_option maxRecDepth 20000 in
theorem tm_3_126 : Cond.methodLink "FormatDump$Printer" 204 yX8_signOf ∈ GT := GT_3 126 rfl rfl
set_option maxRecDepth 20000 in
theorem tm_3_128 : Cond.instanceMethod yX8_signOf ∈ GT := GT_3 128 rfl rfl
set_option maxRecDepth 20000 in
theorem tm_3_129 : Cond.code yX8_signOf cX8_signOf 2 (Option.some Jvm.ClassFile.FieldType.int) ∈ GT := GT_3 129 rfl rfl
set_option maxRecDepth 20000 in
theorem tm_3_130 : Cond.methodLink "FormatDump$Printer" 208 yX2_fillsWithZeros ∈ GT := GT_3 130 rfl rfl
set_option maxRecDepth 20000 in
theorem tm_3_131 : Cond.instanceMethod yX2_fillsWithZeros ∈ GT := GT_3 131 rfl rfl
set_option maxRecDepth 20000 in
theorem tm_3_132 : Cond.selects "FormatDump$Directive" yX2_fillsWithZeros yX2_fillsWithZeros ∈ GT := GT_3 132 rfl rfl
set_option maxRecDepth 20000 in
theorem tm_3_133 : Cond.code yX2_fillsWithZeros cX2_fillsWithZeros 1 (Option.some Jvm.ClassFile.FieldType.boolean) ∈ GT := GT_3 133 rfl rfl
set_option maxRecDepth 20000 in
theorem tm_3_134 : Cond.methodLink "FormatDump" 122 yX8_hasEnded ∈ GT := GT_3 134 rfl rfl
set_option maxRecDepth 20000 in
theorem tm_3_135 : Cond.instanceMethod yX8_hasEnded ∈ GT := GT_3 135 rfl rfl
set_option maxRecDepth 20000 in
theorem tm_3_136 : Cond.selects "FormatDump$Printer" yX8_hasEnded yX8_hasEnded ∈ GT := GT_3 136 rfl rfl
set_option maxRecDepth 20000 in
theorem tm_3_137 : Cond.code yX8_hasEnded cX8_hasEnded 1 (Option.some Jvm.ClassFile.FieldType.boolean) ∈ GT := GT_3 137 rfl rfl
set_option maxRecDepth 20000 in
theorem tm_3_138 : Cond.methodLink "FormatDump" 126 yX11_answerOfPage ∈ GT := GT_3 138 rfl rfl
set_option maxRecDepth 20000 in
theorem tm_3_140 : Cond.instanceMethod yX11_answerOfPage ∈ GT := GT_3 140 rfl rfl
set_option maxRecDepth 20000 in
theorem tm_3_141 : Cond.code yX11_answerOfPage cX11_answerOfPage 1 (Option.some Jvm.ClassFile.FieldType.int) ∈ GT := GT_3 141 rfl rfl
set_option maxRecDepth 20000 in
theorem tm_3_142 : Cond.methodLink "FormatDump" 171 yX9_isOver ∈ GT := GT_3 142 rfl rfl
set_option maxRecDepth 20000 in
theorem tm_3_143 : Cond.instanceMethod yX9_isOver ∈ GT := GT_3 143 rfl rfl
set_option maxRecDepth 20000 in
theorem tm_3_144 : Cond.selects "FormatDump$Row" yX9_isOver yX9_isOver ∈ GT := GT_3 144 rfl rfl
set_option maxRecDepth 20000 in
theorem tm_3_145 : Cond.code yX9_isOver cX9_isOver 1 (Option.some Jvm.ClassFile.FieldType.boolean) ∈ GT := GT_3 145 rfl rfl
set_option maxRecDepth 20000 in
theorem tm_3_146 : Cond.methodLink "FormatDump" 129 yX1_oddTexts ∈ GT := GT_3 146 rfl rfl
set_option maxRecDepth 20000 in
theorem tm_3_147 : Cond.instanceMethod yX1_oddTexts ∈ GT := GT_3 147 rfl rfl
set_option maxRecDepth 20000 in
theorem tm_3_148 : Cond.selects "FormatDump$Arguments" yX1_oddTexts yX1_oddTexts ∈ GT := GT_3 148 rfl rfl
set_option maxRecDepth 20000 in
theorem tm_3_149 : Cond.code yX1_oddTexts cX1_oddTexts 1 (Option.some Jvm.ClassFile.FieldType.int) ∈ GT := GT_3 149 rfl rfl
set_option maxRecDepth 20000 in
theorem tm_3_150 : Cond.methodLink "FormatDumpLaw" 95 yX11_odd ∈ GT := GT_3 150 rfl rfl
set_option maxRecDepth 20000 in
theorem tm_3_151 : Cond.instanceMethod yX11_odd ∈ GT := GT_3 151 rfl rfl
set_option maxRecDepth 20000 in
theorem tm_3_152 : Cond.selects "FormatDump" yX11_odd yX11_odd ∈ GT := GT_3 152 rfl rfl
set_option maxRecDepth 20000 in
theorem tm_3_153 : Cond.code yX11_odd cX11_odd 1 (Option.some Jvm.ClassFile.FieldType.int) ∈ GT := GT_3 153 rfl rfl
set_option maxRecDepth 20000 in
theorem tm_3_154 : Cond.methodLink "FormatDumpLaw" 124 yX11_place ∈ GT := GT_3 154 rfl rfl
set_option maxRecDepth 20000 in
theorem tm_3_155 : Cond.instanceMethod yX11_place ∈ GT := GT_3 155 rfl rfl
set_option maxRecDepth 20000 in
theorem tm_3_156 : Cond.selects "FormatDump" yX11_place yX11_place ∈ GT := GT_3 156 rfl rfl
set_option maxRecDepth 20000 in
theorem tm_3_157 : Cond.code yX11_place cX11_place 1 (Option.some Jvm.ClassFile.FieldType.int) ∈ GT := GT_3 157 rfl rfl
set_option maxRecDepth 20000 in
theorem tm_3_158 : Cond.methodLink "FormatDumpLaw" 128 yX11_output ∈ GT := GT_3 158 rfl rfl
set_option maxRecDepth 20000 in
theorem tm_3_159 : Cond.instanceMethod yX11_output ∈ GT := GT_3 159 rfl rfl
set_option maxRecDepth 20000 in
theorem tm_3_160 : Cond.selects "FormatDump" yX11_output yX11_output ∈ GT := GT_3 160 rfl rfl
set_option maxRecDepth 20000 in
theorem tm_3_161 : Cond.code yX11_output cX11_output 2 (Option.some Jvm.ClassFile.FieldType.int) ∈ GT := GT_3 161 rfl rfl
set_option maxRecDepth 20000 in
theorem tm_3_162 : Cond.methodLink "FormatDump" 177 yX9_at ∈ GT := GT_3 162 rfl rfl
set_option maxRecDepth 20000 in
theorem tm_3_163 : Cond.methodLink "FormatDumpLaw" 132 yX11_data ∈ GT := GT_3 163 rfl rfl
set_option maxRecDepth 20000 in
theorem tm_3_164 : Cond.instanceMethod yX11_data ∈ GT := GT_3 164 rfl rfl
set_option maxRecDepth 20000 in
theorem tm_3_165 : Cond.selects "FormatDump" yX11_data yX11_data ∈ GT := GT_3 165 rfl rfl
set_option maxRecDepth 20000 in
theorem tm_3_166 : Cond.code yX11_data cX11_data 2 (Option.some Jvm.ClassFile.FieldType.int) ∈ GT := GT_3 166 rfl rfl
set_option maxRecDepth 20000 in
theorem tm_3_167 : Cond.methodLink "FormatDumpLaw" 60 yL_type ∈ GT := GT_3 167 rfl rfl
set_option maxRecDepth 20000 in
theorem tm_3_168 : Cond.static yL_type ∈ GT := GT_3 168 rfl rfl
set_option maxRecDepth 20000 in
theorem tm_3_170 : Cond.classLink "FormatDumpLaw" 13 "java/lang/IllegalStateException" ∈ GT := GT_3 170 rfl rfl
set_option maxRecDepth 20000 in
theorem tm_3_171 : Cond.methodLink "FormatDumpLaw" 7 yX11_type ∈ GT := GT_3 171 rfl rfl
set_option maxRecDepth 20000 in
theorem tm_3_172 : Cond.instanceMethod yX11_type ∈ GT := GT_3 172 rfl rfl
set_option maxRecDepth 20000 in
theorem tm_3_173 : Cond.selects "FormatDump" yX11_type yX11_type ∈ GT := GT_3 173 rfl rfl
set_option maxRecDepth 20000 in
theorem tm_3_174 : Cond.code yX11_type cX11_type 7 (Option.some Jvm.ClassFile.FieldType.int) ∈ GT := GT_3 174 rfl rfl
set_option maxRecDepth 20000 in
theorem tm_3_175 : Cond.methodLink "FormatDump" 75 yX11_charactersIn ∈ GT := GT_3 175 rfl rfl
set_option maxRecDepth 20000 in
theorem tm_3_176 : Cond.static yX11_charactersIn ∈ GT := GT_3 176 rfl rfl
set_option maxRecDepth 20000 in
theorem tm_3_177 : Cond.code yX11_charactersIn cX11_charactersIn 3 (Option.some Jvm.ClassFile.FieldType.int) ∈ GT := GT_3 177 rfl rfl
set_option maxRecDepth 20000 in
theorem tm_3_178 : Cond.methodLink "FormatDump" 186 yX11_byteOf ∈ GT := GT_3 178 rfl rfl
set_option maxRecDepth 20000 in
theorem tm_3_179 : Cond.static yX11_byteOf ∈ GT := GT_3 179 rfl rfl
set_option maxRecDepth 20000 in
theorem tm_3_180 : Cond.code yX11_byteOf cX11_byteOf 2 (Option.some Jvm.ClassFile.FieldType.int) ∈ GT := GT_3 180 rfl rfl
set_option maxRecDepth 20000 in
theorem tm_3_181 : Cond.classLink "FormatDump" 83 "java/lang/IllegalStateException" ∈ GT := GT_3 181 rfl rfl
set_option maxRecDepth 20000 in
theorem tm_3_182 : Cond.instantiable "java/lang/IllegalStateException" 6 ∈ GT := GT_3 182 rfl rfl
set_option maxRecDepth 20000 in
theorem tm_3_190 : Cond.selects "java/lang/IllegalStateException" (⟨"java/lang/Throwable", "fillInStackTrace", "(I)Ljava/lang/Throwable;"⟩ : MethodName) (⟨"java/lang/Throwable", "fillInStackTrace", "(I)Ljava/lang/Throwable;"⟩ : MethodName) ∈ GT := GT_3 190 rfl rfl
set_option maxRecDepth 20000 in
theorem tm_3_191 : Cond.selects "java/lang/IllegalStateException" (⟨"java/lang/Throwable", "fillInStackTrace", "()Ljava/lang/Throwable;"⟩ : MethodName) (⟨"java/lang/Throwable", "fillInStackTrace", "()Ljava/lang/Throwable;"⟩ : MethodName) ∈ GT := GT_3 191 rfl rfl
set_option maxRecDepth 20000 in
theorem tm_3_202 : Cond.fieldLink "java/lang/Throwable" 198 "java/lang/Throwable" "backtrace" "Ljava/lang/Object;" ∈ GT := GT_3 202 rfl rfl
set_option maxRecDepth 20000 in
theorem tm_3_204 : Cond.instanceMethod (⟨"java/lang/Throwable", "<init>", "()V"⟩ : MethodName) ∈ GT := GT_3 204 rfl rfl
set_option maxRecDepth 20000 in
theorem tm_3_205 : Cond.code (⟨"java/lang/Throwable", "<init>", "()V"⟩ : MethodName) prog_21_method_1_code 1 (Option.none : Option Jvm.ClassFile.FieldType) ∈ GT := GT_3 205 rfl rfl
set_option maxRecDepth 20000 in
theorem tm_3_206 : Cond.methodLink "java/lang/Throwable" 1 (⟨"java/lang/Object", "<init>", "()V"⟩ : MethodName) ∈ GT := GT_3 206 rfl rfl
set_option maxRecDepth 20000 in
theorem tm_3_207 : Cond.fieldLink "java/lang/Throwable" 13 "java/lang/Throwable" "UNASSIGNED_STACK" "[Ljava/lang/StackTraceElement;" ∈ GT := GT_3 207 rfl rfl
set_option maxRecDepth 20000 in
theorem tm_3_209 : Cond.fieldLink "java/lang/Throwable" 20 "java/lang/Throwable" "SUPPRESSED_SENTINEL" "Ljava/util/List;" ∈ GT := GT_3 209 rfl rfl
set_option maxRecDepth 20000 in
theorem tm_3_211 : Cond.methodLink "java/lang/Throwable" 27 (⟨"java/lang/Throwable", "fillInStackTrace", "()Ljava/lang/Throwable;"⟩ : MethodName) ∈ GT := GT_3 211 rfl rfl
set_option maxRecDepth 20000 in
theorem tm_3_212 : Cond.instanceMethod (⟨"java/lang/Throwable", "fillInStackTrace", "()Ljava/lang/Throwable;"⟩ : MethodName) ∈ GT := GT_3 212 rfl rfl
set_option maxRecDepth 20000 in
theorem tm_3_214 : Cond.selects "java/lang/IllegalArgumentException" (⟨"java/lang/Throwable", "fillInStackTrace", "()Ljava/lang/Throwable;"⟩ : MethodName) (⟨"java/lang/Throwable", "fillInStackTrace", "()Ljava/lang/Throwable;"⟩ : MethodName) ∈ GT := GT_3 214 rfl rfl
set_option maxRecDepth 20000 in
theorem tm_3_215 : Cond.selects "java/lang/IndexOutOfBoundsException" (⟨"java/lang/Throwable", "fillInStackTrace", "()Ljava/lang/Throwable;"⟩ : MethodName) (⟨"java/lang/Throwable", "fillInStackTrace", "()Ljava/lang/Throwable;"⟩ : MethodName) ∈ GT := GT_3 215 rfl rfl
set_option maxRecDepth 20000 in
theorem tm_3_217 : Cond.methodLink "java/lang/Throwable" 202 (⟨"java/lang/Throwable", "fillInStackTrace", "(I)Ljava/lang/Throwable;"⟩ : MethodName) ∈ GT := GT_3 217 rfl rfl
set_option maxRecDepth 20000 in
theorem tm_3_219 : Cond.instanceMethod (⟨"java/lang/Throwable", "fillInStackTrace", "(I)Ljava/lang/Throwable;"⟩ : MethodName) ∈ GT := GT_3 219 rfl rfl
set_option maxRecDepth 20000 in
theorem tm_3_220 : Cond.instantiable "java/lang/Throwable" 6 ∈ GT := GT_3 220 rfl rfl
set_option maxRecDepth 20000 in
theorem tm_3_222 : Cond.methodLink "FormatDump" 85 (⟨"java/lang/IllegalStateException", "<init>", "()V"⟩ : MethodName) ∈ GT := GT_3 222 rfl rfl
set_option maxRecDepth 20000 in
theorem tm_3_223 : Cond.instanceMethod (⟨"java/lang/IllegalStateException", "<init>", "()V"⟩ : MethodName) ∈ GT := GT_3 223 rfl rfl
set_option maxRecDepth 20000 in
theorem tm_3_224 : Cond.code (⟨"java/lang/IllegalStateException", "<init>", "()V"⟩ : MethodName) prog_17_method_1_code 1 (Option.none : Option Jvm.ClassFile.FieldType) ∈ GT := GT_3 224 rfl rfl
set_option maxRecDepth 20000 in
theorem tm_3_225 : Cond.methodLink "java/lang/IllegalStateException" 1 (⟨"java/lang/RuntimeException", "<init>", "()V"⟩ : MethodName) ∈ GT := GT_3 225 rfl rfl
set_option maxRecDepth 20000 in
theorem tm_3_226 : Cond.instanceMethod (⟨"java/lang/RuntimeException", "<init>", "()V"⟩ : MethodName) ∈ GT := GT_3 226 rfl rfl
set_option maxRecDepth 20000 in
theorem tm_3_227 : Cond.code (⟨"java/lang/RuntimeException", "<init>", "()V"⟩ : MethodName) prog_20_method_1_code 1 (Option.none : Option Jvm.ClassFile.FieldType) ∈ GT := GT_3 227 rfl rfl
set_option maxRecDepth 20000 in
theorem tm_3_228 : Cond.methodLink "java/lang/RuntimeException" 1 (⟨"java/lang/Exception", "<init>", "()V"⟩ : MethodName) ∈ GT := GT_3 228 rfl rfl
set_option maxRecDepth 20000 in
theorem tm_3_229 : Cond.instanceMethod (⟨"java/lang/Exception", "<init>", "()V"⟩ : MethodName) ∈ GT := GT_3 229 rfl rfl
set_option maxRecDepth 20000 in
theorem tm_3_230 : Cond.code (⟨"java/lang/Exception", "<init>", "()V"⟩ : MethodName) prog_15_method_1_code 1 (Option.none : Option Jvm.ClassFile.FieldType) ∈ GT := GT_3 230 rfl rfl
set_option maxRecDepth 20000 in
theorem tm_3_231 : Cond.methodLink "java/lang/Exception" 1 (⟨"java/lang/Throwable", "<init>", "()V"⟩ : MethodName) ∈ GT := GT_3 231 rfl rfl
set_option maxRecDepth 20000 in
theorem tm_3_233 : Cond.fieldLink "java/lang/Throwable" 7 "java/lang/Throwable" "cause" "Ljava/lang/Throwable;" ∈ GT := GT_3 233 rfl rfl
set_option maxRecDepth 20000 in
theorem tm_3_234 : Cond.fieldLink "java/lang/Throwable" 17 "java/lang/Throwable" "stackTrace" "[Ljava/lang/StackTraceElement;" ∈ GT := GT_3 234 rfl rfl
set_option maxRecDepth 20000 in
theorem tm_3_235 : Cond.fieldLink "java/lang/Throwable" 24 "java/lang/Throwable" "suppressedExceptions" "Ljava/util/List;" ∈ GT := GT_3 235 rfl rfl
set_option maxRecDepth 20000 in
theorem tm_4_4 : Cond.methodLink "FormatDump" 86 yX11_typeWord ∈ GT := GT_4 4 rfl rfl
set_option maxRecDepth 20000 in
theorem tm_4_6 : Cond.instanceMethod yX11_typeWord ∈ GT := GT_4 6 rfl rfl
set_option maxRecDepth 20000 in
theorem tm_4_7 : Cond.code yX11_typeWord cX11_typeWord 4 (Option.none : Option Jvm.ClassFile.FieldType) ∈ GT := GT_4 7 rfl rfl
set_option maxRecDepth 20000 in
theorem tm_4_8 : Cond.methodLink "FormatDump" 189 yX9_add ∈ GT := GT_4 8 rfl rfl
set_option maxRecDepth 20000 in
theorem tm_4_9 : Cond.methodLink "FormatDumpLaw" 75 yL_number ∈ GT := GT_4 9 rfl rfl
set_option maxRecDepth 20000 in
theorem tm_4_10 : Cond.static yL_number ∈ GT := GT_4 10 rfl rfl
set_option maxRecDepth 20000 in
theorem tm_4_12 : Cond.methodLink "FormatDumpLaw" 15 yX11_number ∈ GT := GT_4 12 rfl rfl
set_option maxRecDepth 20000 in
theorem tm_4_13 : Cond.instanceMethod yX11_number ∈ GT := GT_4 13 rfl rfl
set_option maxRecDepth 20000 in
theorem tm_4_14 : Cond.selects "FormatDump" yX11_number yX11_number ∈ GT := GT_4 14 rfl rfl
set_option maxRecDepth 20000 in
theorem tm_4_15 : Cond.code yX11_number cX11_number 3 (Option.some Jvm.ClassFile.FieldType.int) ∈ GT := GT_4 15 rfl rfl
set_option maxRecDepth 20000 in
theorem tm_4_16 : Cond.methodLink "FormatDump" 95 yX1_addNumber ∈ GT := GT_4 16 rfl rfl
set_option maxRecDepth 20000 in
theorem tm_4_17 : Cond.instanceMethod yX1_addNumber ∈ GT := GT_4 17 rfl rfl
set_option maxRecDepth 20000 in
theorem tm_4_18 : Cond.selects "FormatDump$Arguments" yX1_addNumber yX1_addNumber ∈ GT := GT_4 18 rfl rfl
set_option maxRecDepth 20000 in
theorem tm_4_19 : Cond.code yX1_addNumber cX1_addNumber 3 (Option.none : Option Jvm.ClassFile.FieldType) ∈ GT := GT_4 19 rfl rfl
set_option maxRecDepth 20000 in
theorem tm_4_20 : Cond.methodLink "FormatDumpLaw" 79 yL_text ∈ GT := GT_4 20 rfl rfl
set_option maxRecDepth 20000 in
theorem tm_4_21 : Cond.static yL_text ∈ GT := GT_4 21 rfl rfl
set_option maxRecDepth 20000 in
theorem tm_4_23 : Cond.methodLink "FormatDumpLaw" 19 yX11_text ∈ GT := GT_4 23 rfl rfl
set_option maxRecDepth 20000 in
theorem tm_4_24 : Cond.instanceMethod yX11_text ∈ GT := GT_4 24 rfl rfl
set_option maxRecDepth 20000 in
theorem tm_4_25 : Cond.selects "FormatDump" yX11_text yX11_text ∈ GT := GT_4 25 rfl rfl
set_option maxRecDepth 20000 in
theorem tm_4_26 : Cond.code yX11_text cX11_text 1 (Option.some Jvm.ClassFile.FieldType.int) ∈ GT := GT_4 26 rfl rfl
set_option maxRecDepth 20000 in
theorem tm_4_27 : Cond.methodLink "FormatDump" 99 yX1_addText ∈ GT := GT_4 27 rfl rfl
set_option maxRecDepth 20000 in
theorem tm_4_28 : Cond.instanceMethod yX1_addText ∈ GT := GT_4 28 rfl rfl
set_option maxRecDepth 20000 in
theorem tm_4_29 : Cond.selects "FormatDump$Arguments" yX1_addText yX1_addText ∈ GT := GT_4 29 rfl rfl
set_option maxRecDepth 20000 in
theorem tm_4_30 : Cond.code yX1_addText cX1_addText 2 (Option.none : Option Jvm.ClassFile.FieldType) ∈ GT := GT_4 30 rfl rfl
set_option maxRecDepth 20000 in
theorem tm_4_31 : Cond.methodLink "FormatDump$Arguments" 47 yX9_copyOf ∈ GT := GT_4 31 rfl rfl
set_option maxRecDepth 20000 in
theorem tm_4_32 : Cond.methodLink "FormatDumpLaw" 87 yL_room ∈ GT := GT_4 32 rfl rfl
set_option maxRecDepth 20000 in
theorem tm_4_33 : Cond.static yL_room ∈ GT := GT_4 33 rfl rfl
set_option maxRecDepth 20000 in
theorem tm_4_35 : Cond.classLink "FormatDumpLaw" 27 "java/lang/IllegalArgumentException" ∈ GT := GT_4 35 rfl rfl
set_option maxRecDepth 20000 in
theorem tm_4_36 : Cond.methodLink "FormatDumpLaw" 23 yX11_room ∈ GT := GT_4 36 rfl rfl
set_option maxRecDepth 20000 in
theorem tm_4_37 : Cond.instanceMethod yX11_room ∈ GT := GT_4 37 rfl rfl
set_option maxRecDepth 20000 in
theorem tm_4_38 : Cond.selects "FormatDump" yX11_room yX11_room ∈ GT := GT_4 38 rfl rfl
set_option maxRecDepth 20000 in
theorem tm_4_39 : Cond.code yX11_room cX11_room 2 (Option.none : Option Jvm.ClassFile.FieldType) ∈ GT := GT_4 39 rfl rfl
set_option maxRecDepth 20000 in
theorem tm_4_40 : Cond.classLink "FormatDump" 103 "java/lang/IllegalArgumentException" ∈ GT := GT_4 40 rfl rfl
set_option maxRecDepth 20000 in
theorem tm_4_41 : Cond.instantiable "java/lang/IllegalArgumentException" 6 ∈ GT := GT_4 41 rfl rfl
set_option maxRecDepth 20000 in
theorem tm_4_43 : Cond.selects "java/lang/IllegalArgumentException" (⟨"java/lang/Throwable", "fillInStackTrace", "(I)Ljava/lang/Throwable;"⟩ : MethodName) (⟨"java/lang/Throwable", "fillInStackTrace", "(I)Ljava/lang/Throwable;"⟩ : MethodName) ∈ GT := GT_4 43 rfl rfl
set_option maxRecDepth 20000 in
theorem tm_4_49 : Cond.methodLink "FormatDump" 105 (⟨"java/lang/IllegalArgumentException", "<init>", "()V"⟩ : MethodName) ∈ GT := GT_4 49 rfl rfl
set_option maxRecDepth 20000 in
theorem tm_4_50 : Cond.instanceMethod (⟨"java/lang/IllegalArgumentException", "<init>", "()V"⟩ : MethodName) ∈ GT := GT_4 50 rfl rfl
set_option maxRecDepth 20000 in
theorem tm_4_51 : Cond.code (⟨"java/lang/IllegalArgumentException", "<init>", "()V"⟩ : MethodName) prog_16_method_1_code 1 (Option.none : Option Jvm.ClassFile.FieldType) ∈ GT := GT_4 51 rfl rfl
set_option maxRecDepth 20000 in
theorem tm_4_52 : Cond.methodLink "java/lang/IllegalArgumentException" 1 (⟨"java/lang/RuntimeException", "<init>", "()V"⟩ : MethodName) ∈ GT := GT_4 52 rfl rfl
set_option maxRecDepth 20000 in
theorem tm_4_55 : Cond.methodLink "FormatDump" 106 yX9_limitTo ∈ GT := GT_4 55 rfl rfl
set_option maxRecDepth 20000 in
theorem tm_4_56 : Cond.instanceMethod yX9_limitTo ∈ GT := GT_4 56 rfl rfl
set_option maxRecDepth 20000 in
theorem tm_4_57 : Cond.selects "FormatDump$Row" yX9_limitTo yX9_limitTo ∈ GT := GT_4 57 rfl rfl
set_option maxRecDepth 20000 in
theorem tm_4_58 : Cond.code yX9_limitTo cX9_limitTo 2 (Option.none : Option Jvm.ClassFile.FieldType) ∈ GT := GT_4 58 rfl rfl
set_option maxRecDepth 20000 in
theorem tm_4_59 : Cond.methodLink "FormatDumpLaw" 99 yL_feed ∈ GT := GT_4 59 rfl rfl
set_option maxRecDepth 20000 in
theorem tm_4_60 : Cond.static yL_feed ∈ GT := GT_4 60 rfl rfl
set_option maxRecDepth 20000 in
theorem tm_4_62 : Cond.methodLink "FormatDumpLaw" 29 yX11_feed ∈ GT := GT_4 62 rfl rfl
set_option maxRecDepth 20000 in
theorem tm_4_63 : Cond.instanceMethod yX11_feed ∈ GT := GT_4 63 rfl rfl
set_option maxRecDepth 20000 in
theorem tm_4_64 : Cond.selects "FormatDump" yX11_feed yX11_feed ∈ GT := GT_4 64 rfl rfl
set_option maxRecDepth 20000 in
theorem tm_4_65 : Cond.code yX11_feed cX11_feed 6 (Option.some Jvm.ClassFile.FieldType.int) ∈ GT := GT_4 65 rfl rfl
set_option maxRecDepth 20000 in
theorem tm_4_66 : Cond.methodLink "FormatDump" 131 yX11_feedWord ∈ GT := GT_4 66 rfl rfl
set_option maxRecDepth 20000 in
theorem tm_4_68 : Cond.instanceMethod yX11_feedWord ∈ GT := GT_4 68 rfl rfl
set_option maxRecDepth 20000 in
theorem tm_4_69 : Cond.code yX11_feedWord cX11_feedWord 4 (Option.none : Option Jvm.ClassFile.FieldType) ∈ GT := GT_4 69 rfl rfl
set_option maxRecDepth 20000 in
theorem tm_4_70 : Cond.methodLink "FormatDumpLaw" 102 yL_cut ∈ GT := GT_4 70 rfl rfl
set_option maxRecDepth 20000 in
theorem tm_4_71 : Cond.static yL_cut ∈ GT := GT_4 71 rfl rfl
set_option maxRecDepth 20000 in
theorem tm_4_73 : Cond.methodLink "FormatDumpLaw" 32 yX11_cut ∈ GT := GT_4 73 rfl rfl
set_option maxRecDepth 20000 in
theorem tm_4_74 : Cond.instanceMethod yX11_cut ∈ GT := GT_4 74 rfl rfl
set_option maxRecDepth 20000 in
theorem tm_4_75 : Cond.selects "FormatDump" yX11_cut yX11_cut ∈ GT := GT_4 75 rfl rfl
set_option maxRecDepth 20000 in
theorem tm_4_76 : Cond.code yX11_cut cX11_cut 2 (Option.some Jvm.ClassFile.FieldType.int) ∈ GT := GT_4 76 rfl rfl
set_option maxRecDepth 20000 in
theorem tm_4_77 : Cond.methodLink "FormatDump" 135 yX9_keepFirst ∈ GT := GT_4 77 rfl rfl
set_option maxRecDepth 20000 in
theorem tm_4_78 : Cond.methodLink "FormatDumpLaw" 106 yL_words ∈ GT := GT_4 78 rfl rfl
set_option maxRecDepth 20000 in
theorem tm_4_79 : Cond.static yL_words ∈ GT := GT_4 79 rfl rfl
set_option maxRecDepth 20000 in
theorem tm_4_81 : Cond.methodLink "FormatDumpLaw" 36 yX11_words ∈ GT := GT_4 81 rfl rfl
set_option maxRecDepth 20000 in
theorem tm_4_82 : Cond.instanceMethod yX11_words ∈ GT := GT_4 82 rfl rfl
set_option maxRecDepth 20000 in
theorem tm_4_83 : Cond.selects "FormatDump" yX11_words yX11_words ∈ GT := GT_4 83 rfl rfl
set_option maxRecDepth 20000 in
theorem tm_4_84 : Cond.code yX11_words cX11_words 5 (Option.some Jvm.ClassFile.FieldType.int) ∈ GT := GT_4 84 rfl rfl
set_option maxRecDepth 20000 in
theorem tm_4_85 : Cond.methodLink "FormatDump" 138 yX11_isAddressBase ∈ GT := GT_4 85 rfl rfl
set_option maxRecDepth 20000 in
theorem tm_4_86 : Cond.static yX11_isAddressBase ∈ GT := GT_4 86 rfl rfl
set_option maxRecDepth 20000 in
theorem tm_4_87 : Cond.code yX11_isAddressBase cX11_isAddressBase 1 (Option.some Jvm.ClassFile.FieldType.boolean) ∈ GT := GT_4 87 rfl rfl
set_option maxRecDepth 20000 in
theorem tm_4_88 : Cond.methodLink "FormatDump" 142 yX11_isWord ∈ GT := GT_4 88 rfl rfl
set_option maxRecDepth 20000 in
theorem tm_4_89 : Cond.static yX11_isWord ∈ GT := GT_4 89 rfl rfl
set_option maxRecDepth 20000 in
theorem tm_4_90 : Cond.code yX11_isWord cX11_isWord 3 (Option.some Jvm.ClassFile.FieldType.boolean) ∈ GT := GT_4 90 rfl rfl
set_option maxRecDepth 20000 in
theorem tm_4_91 : Cond.methodLink "FormatDump" 146 yX10_dump ∈ GT := GT_4 91 rfl rfl
set_option maxRecDepth 20000 in
theorem tm_4_92 : Cond.instanceMethod yX10_dump ∈ GT := GT_4 92 rfl rfl
set_option maxRecDepth 20000 in
theorem tm_4_93 : Cond.selects "FormatDump$WordDump" yX10_dump yX10_dump ∈ GT := GT_4 93 rfl rfl
set_option maxRecDepth 20000 in
theorem tm_4_94 : Cond.code yX10_dump cX10_dump 7 (Option.none : Option Jvm.ClassFile.FieldType) ∈ GT := GT_4 94 rfl rfl
set_option maxRecDepth 20000 in
theorem tm_4_95 : Cond.methodLink "FormatDump$WordDump" 41 yX9_size ∈ GT := GT_4 95 rfl rfl
set_option maxRecDepth 20000 in
theorem tm_4_96 : Cond.methodLink "FormatDump$WordDump" 45 yX10_isLikeBefore ∈ GT := GT_4 96 rfl rfl
set_option maxRecDepth 20000 in
theorem tm_4_98 : Cond.instanceMethod yX10_isLikeBefore ∈ GT := GT_4 98 rfl rfl
set_option maxRecDepth 20000 in
theorem tm_4_99 : Cond.code yX10_isLikeBefore cX10_isLikeBefore 3 (Option.some Jvm.ClassFile.FieldType.boolean) ∈ GT := GT_4 99 rfl rfl
set_option maxRecDepth 20000 in
theorem tm_4_100 : Cond.methodLink "FormatDump$WordDump" 58 yX9_at ∈ GT := GT_4 100 rfl rfl
set_option maxRecDepth 20000 in
theorem tm_4_101 : Cond.methodLink "FormatDump$WordDump" 49 yX10_writeLine ∈ GT := GT_4 101 rfl rfl
set_option maxRecDepth 20000 in
theorem tm_4_103 : Cond.instanceMethod yX10_writeLine ∈ GT := GT_4 103 rfl rfl
set_option maxRecDepth 20000 in
theorem tm_4_104 : Cond.code yX10_writeLine cX10_writeLine 5 (Option.none : Option Jvm.ClassFile.FieldType) ∈ GT := GT_4 104 rfl rfl
set_option maxRecDepth 20000 in
theorem tm_4_105 : Cond.methodLink "FormatDump$WordDump" 62 yJ9_min_7cf53 ∈ GT := GT_4 105 rfl rfl
set_option maxRecDepth 20000 in
theorem tm_4_106 : Cond.methodLink "FormatDump$WordDump" 68 yJ9_max_7cf53 ∈ GT := GT_4 106 rfl rfl
set_option maxRecDepth 20000 in
theorem tm_4_107 : Cond.methodLink "FormatDump$WordDump" 55 yX10_writeAddress ∈ GT := GT_4 107 rfl rfl
set_option maxRecDepth 20000 in
theorem tm_4_109 : Cond.instanceMethod yX10_writeAddress ∈ GT := GT_4 109 rfl rfl
set_option maxRecDepth 20000 in
theorem tm_4_110 : Cond.code yX10_writeAddress cX10_writeAddress 2 (Option.none : Option Jvm.ClassFile.FieldType) ∈ GT := GT_4 110 rfl rfl
set_option maxRecDepth 20000 in
theorem tm_4_111 : Cond.methodLink "FormatDump$WordDump" 79 yX4_take ∈ GT := GT_4 111 rfl rfl
set_option maxRecDepth 20000 in
theorem tm_4_112 : Cond.methodLink "FormatDump$WordDump" 85 yX4_writeTo ∈ GT := GT_4 112 rfl rfl
set_option maxRecDepth 20000 in
theorem tm_4_113 : Cond.methodLink "FormatDump$WordDump" 52 yX9_add ∈ GT := GT_4 113 rfl rfl
set_option maxRecDepth 20000 in
theorem tm_4_114 : Cond.methodLink "FormatDump$WordDump" 71 yX10_wordAt ∈ GT := GT_4 114 rfl rfl
set_option maxRecDepth 20000 in
theorem tm_4_116 : Cond.instanceMethod yX10_wordAt ∈ GT := GT_4 116 rfl rfl
set_option maxRecDepth 20000 in
theorem tm_4_117 : Cond.code yX10_wordAt cX10_wordAt 6 (Option.some Jvm.ClassFile.FieldType.long) ∈ GT := GT_4 117 rfl rfl
set_option maxRecDepth 20000 in
theorem tm_4_118 : Cond.methodLink "FormatDump$WordDump" 75 yX10_writeField ∈ GT := GT_4 118 rfl rfl
set_option maxRecDepth 20000 in
theorem tm_4_120 : Cond.instanceMethod yX10_writeField ∈ GT := GT_4 120 rfl rfl
set_option maxRecDepth 20000 in
theorem tm_4_121 : Cond.code yX10_writeField cX10_writeField 4 (Option.none : Option Jvm.ClassFile.FieldType) ∈ GT := GT_4 121 rfl rfl
set_option maxRecDepth 20000 in
theorem tm_4_122 : Cond.methodLink "FormatDump$WordDump" 89 yX9_clear ∈ GT := GT_4 122 rfl rfl
set_option maxRecDepth 20000 in
theorem tm_4_123 : Cond.methodLink "FormatDump$WordDump" 92 yX10_loadCharacter ∈ GT := GT_4 123 rfl rfl
set_option maxRecDepth 20000 in
theorem tm_4_125 : Cond.instanceMethod yX10_loadCharacter ∈ GT := GT_4 125 rfl rfl
set_option maxRecDepth 20000 in
theorem tm_4_126 : Cond.code yX10_loadCharacter cX10_loadCharacter 3 (Option.none : Option Jvm.ClassFile.FieldType) ∈ GT := GT_4 126 rfl rfl
set_option maxRecDepth 20000 in
theorem tm_4_127 : Cond.methodLink "FormatDump$WordDump" 111 yX10_nameOf ∈ GT := GT_4 127 rfl rfl
set_option maxRecDepth 20000 in
theorem tm_4_128 : Cond.static yX10_nameOf ∈ GT := GT_4 128 rfl rfl
set_option maxRecDepth 20000 in
theorem tm_4_129 : Cond.code yX10_nameOf cX10_nameOf 1 (Option.some Jvm.ClassFile.FieldType.int) ∈ GT := GT_4 129 rfl rfl
set_option maxRecDepth 20000 in
theorem tm_4_131 : Cond.static yX11_canBeSeen ∈ GT := GT_4 131 rfl rfl
set_option maxRecDepth 20000 in
theorem tm_4_132 : Cond.code yX11_canBeSeen cX11_canBeSeen 1 (Option.some Jvm.ClassFile.FieldType.boolean) ∈ GT := GT_4 132 rfl rfl
set_option maxRecDepth 20000 in
theorem tm_4_133 : Cond.methodLink "FormatDump$WordDump" 95 yX10_loadNumber ∈ GT := GT_4 133 rfl rfl
set_option maxRecDepth 20000 in
theorem tm_4_135 : Cond.instanceMethod yX10_loadNumber ∈ GT := GT_4 135 rfl rfl
set_option maxRecDepth 20000 in
theorem tm_4_136 : Cond.code yX10_loadNumber cX10_loadNumber 5 (Option.none : Option Jvm.ClassFile.FieldType) ∈ GT := GT_4 136 rfl rfl
set_option maxRecDepth 20000 in
theorem tm_4_137 : Cond.methodLink "FormatDump$WordDump" 105 yX10_fieldBase ∈ GT := GT_4 137 rfl rfl
set_option maxRecDepth 20000 in
theorem tm_4_139 : Cond.instanceMethod yX10_fieldBase ∈ GT := GT_4 139 rfl rfl
set_option maxRecDepth 20000 in
theorem tm_4_140 : Cond.code yX10_fieldBase cX10_fieldBase 1 (Option.some Jvm.ClassFile.FieldType.int) ∈ GT := GT_4 140 rfl rfl
set_option maxRecDepth 20000 in
theorem tm_4_141 : Cond.methodLink "FormatDump$WordDump" 108 yX10_leastDigits ∈ GT := GT_4 141 rfl rfl
set_option maxRecDepth 20000 in
theorem tm_4_143 : Cond.instanceMethod yX10_leastDigits ∈ GT := GT_4 143 rfl rfl
set_option maxRecDepth 20000 in
theorem tm_4_144 : Cond.code yX10_leastDigits cX10_leastDigits 1 (Option.some Jvm.ClassFile.FieldType.int) ∈ GT := GT_4 144 rfl rfl
set_option maxRecDepth 20000 in
theorem tm_4_145 : Cond.methodLink "FormatDump$WordDump" 98 yX10_fieldWidth ∈ GT := GT_4 145 rfl rfl
set_option maxRecDepth 20000 in
theorem tm_4_147 : Cond.instanceMethod yX10_fieldWidth ∈ GT := GT_4 147 rfl rfl
set_option maxRecDepth 20000 in
theorem tm_4_148 : Cond.code yX10_fieldWidth cX10_fieldWidth 1 (Option.some Jvm.ClassFile.FieldType.int) ∈ GT := GT_4 148 rfl rfl
set_option maxRecDepth 20000 in
theorem tm_4_149 : Cond.methodLink "FormatDump$WordDump" 117 yX10_decimalWidth ∈ GT := GT_4 149 rfl rfl
set_option maxRecDepth 20000 in
theorem tm_4_151 : Cond.instanceMethod yX10_decimalWidth ∈ GT := GT_4 151 rfl rfl
set_option maxRecDepth 20000 in
theorem tm_4_152 : Cond.code yX10_decimalWidth cX10_decimalWidth 1 (Option.some Jvm.ClassFile.FieldType.int) ∈ GT := GT_4 152 rfl rfl
set_option maxRecDepth 20000 in
theorem tm_4_153 : Cond.methodLink "FormatDump$WordDump" 101 yX9_addMany ∈ GT := GT_4 153 rfl rfl
set_option maxRecDepth 20000 in
theorem tm_4_154 : Cond.methodLink "FormatDumpLaw" 110 yL_pairs ∈ GT := GT_4 154 rfl rfl
set_option maxRecDepth 20000 in
theorem tm_4_155 : Cond.static yL_pairs ∈ GT := GT_4 155 rfl rfl
set_option maxRecDepth 20000 in
theorem tm_4_157 : Cond.methodLink "FormatDumpLaw" 40 yX11_pairs ∈ GT := GT_4 157 rfl rfl
set_option maxRecDepth 20000 in
theorem tm_4_158 : Cond.instanceMethod yX11_pairs ∈ GT := GT_4 158 rfl rfl
set_option maxRecDepth 20000 in
theorem tm_4_159 : Cond.selects "FormatDump" yX11_pairs yX11_pairs ∈ GT := GT_4 159 rfl rfl
set_option maxRecDepth 20000 in
theorem tm_4_160 : Cond.code yX11_pairs cX11_pairs 4 (Option.some Jvm.ClassFile.FieldType.int) ∈ GT := GT_4 160 rfl rfl
set_option maxRecDepth 20000 in
theorem tm_4_161 : Cond.methodLink "FormatDump" 150 yX11_isShape ∈ GT := GT_4 161 rfl rfl
set_option maxRecDepth 20000 in
theorem tm_4_162 : Cond.static yX11_isShape ∈ GT := GT_4 162 rfl rfl
set_option maxRecDepth 20000 in
theorem tm_4_163 : Cond.code yX11_isShape cX11_isShape 2 (Option.some Jvm.ClassFile.FieldType.boolean) ∈ GT := GT_4 163 rfl rfl
set_option maxRecDepth 20000 in
theorem tm_4_164 : Cond.methodLink "FormatDump" 154 yX11_groupOf ∈ GT := GT_4 164 rfl rfl
set_option maxRecDepth 20000 in
theorem tm_4_165 : Cond.static yX11_groupOf ∈ GT := GT_4 165 rfl rfl
set_option maxRecDepth 20000 in
theorem tm_4_166 : Cond.code yX11_groupOf cX11_groupOf 2 (Option.some Jvm.ClassFile.FieldType.int) ∈ GT := GT_4 166 rfl rfl
set_option maxRecDepth 20000 in
theorem tm_4_167 : Cond.methodLink "FormatDump" 158 yX6_dump ∈ GT := GT_4 167 rfl rfl
set_option maxRecDepth 20000 in
theorem tm_4_168 : Cond.instanceMethod yX6_dump ∈ GT := GT_4 168 rfl rfl
set_option maxRecDepth 20000 in
theorem tm_4_169 : Cond.selects "FormatDump$PairDump" yX6_dump yX6_dump ∈ GT := GT_4 169 rfl rfl
set_option maxRecDepth 20000 in
theorem tm_4_170 : Cond.code yX6_dump cX6_dump 9 (Option.none : Option Jvm.ClassFile.FieldType) ∈ GT := GT_4 170 rfl rfl
set_option maxRecDepth 20000 in
theorem tm_4_172 : Cond.static yX11_pairsWidth ∈ GT := GT_4 172 rfl rfl
set_option maxRecDepth 20000 in
theorem tm_4_173 : Cond.code yX11_pairsWidth cX11_pairsWidth 4 (Option.some Jvm.ClassFile.FieldType.int) ∈ GT := GT_4 173 rfl rfl
set_option maxRecDepth 20000 in
theorem tm_4_174 : Cond.methodLink "FormatDump" 195 yX11_endsGroup ∈ GT := GT_4 174 rfl rfl
set_option maxRecDepth 20000 in
theorem tm_4_175 : Cond.static yX11_endsGroup ∈ GT := GT_4 175 rfl rfl
set_option maxRecDepth 20000 in
theorem tm_4_176 : Cond.code yX11_endsGroup cX11_endsGroup 3 (Option.some Jvm.ClassFile.FieldType.boolean) ∈ GT := GT_4 176 rfl rfl
set_option maxRecDepth 20000 in
theorem tm_4_177 : Cond.methodLink "FormatDump$PairDump" 26 yJ9_max_7cf53 ∈ GT := GT_4 177 rfl rfl
set_option maxRecDepth 20000 in
theorem tm_4_178 : Cond.methodLink "FormatDump$PairDump" 31 yX9_size ∈ GT := GT_4 178 rfl rfl
set_option maxRecDepth 20000 in
theorem tm_4_179 : Cond.methodLink "FormatDump$PairDump" 37 yJ9_min_7cf53 ∈ GT := GT_4 179 rfl rfl
set_option maxRecDepth 20000 in
theorem tm_4_180 : Cond.methodLink "FormatDump$PairDump" 40 yX6_writeDigits ∈ GT := GT_4 180 rfl rfl
set_option maxRecDepth 20000 in
theorem tm_4_182 : Cond.instanceMethod yX6_writeDigits ∈ GT := GT_4 182 rfl rfl
set_option maxRecDepth 20000 in
theorem tm_4_183 : Cond.code yX6_writeDigits cX6_writeDigits 4 (Option.none : Option Jvm.ClassFile.FieldType) ∈ GT := GT_4 183 rfl rfl
set_option maxRecDepth 20000 in
theorem tm_4_184 : Cond.methodLink "FormatDump$PairDump" 63 yX4_take ∈ GT := GT_4 184 rfl rfl
set_option maxRecDepth 20000 in
theorem tm_4_185 : Cond.methodLink "FormatDump$PairDump" 69 yX4_writeTo ∈ GT := GT_4 185 rfl rfl
set_option maxRecDepth 20000 in
theorem tm_4_186 : Cond.methodLink "FormatDump$PairDump" 44 yX9_add ∈ GT := GT_4 186 rfl rfl
set_option maxRecDepth 20000 in
theorem tm_4_187 : Cond.methodLink "FormatDump$PairDump" 48 yX9_at ∈ GT := GT_4 187 rfl rfl
set_option maxRecDepth 20000 in
theorem tm_4_189 : Cond.methodLink "FormatDump$PairDump" 56 yX9_addMany ∈ GT := GT_4 189 rfl rfl
set_option maxRecDepth 20000 in
theorem tm_4_191 : Cond.static yX11_seenAs ∈ GT := GT_4 191 rfl rfl
set_option maxRecDepth 20000 in
theorem tm_4_192 : Cond.code yX11_seenAs cX11_seenAs 1 (Option.some Jvm.ClassFile.FieldType.int) ∈ GT := GT_4 192 rfl rfl
set_option maxRecDepth 20000 in
theorem tm_4_193 : Cond.methodLink "FormatDump" 192 yX11_canBeSeen ∈ GT := GT_4 193 rfl rfl
set_option maxRecDepth 20000 in
theorem tm_4_194 : Cond.methodLink "FormatDumpLaw" 114 yL_back ∈ GT := GT_4 194 rfl rfl
set_option maxRecDepth 20000 in
theorem tm_4_195 : Cond.static yL_back ∈ GT := GT_4 195 rfl rfl
set_option maxRecDepth 20000 in
theorem tm_4_197 : Cond.methodLink "FormatDumpLaw" 44 yX11_back ∈ GT := GT_4 197 rfl rfl
set_option maxRecDepth 20000 in
theorem tm_4_198 : Cond.instanceMethod yX11_back ∈ GT := GT_4 198 rfl rfl
set_option maxRecDepth 20000 in
theorem tm_4_199 : Cond.selects "FormatDump" yX11_back yX11_back ∈ GT := GT_4 199 rfl rfl
set_option maxRecDepth 20000 in
theorem tm_4_200 : Cond.code yX11_back cX11_back 4 (Option.some Jvm.ClassFile.FieldType.int) ∈ GT := GT_4 200 rfl rfl
set_option maxRecDepth 20000 in
theorem tm_4_201 : Cond.methodLink "FormatDump" 161 yX7_readPage ∈ GT := GT_4 201 rfl rfl
set_option maxRecDepth 20000 in
theorem tm_4_202 : Cond.instanceMethod yX7_readPage ∈ GT := GT_4 202 rfl rfl
set_option maxRecDepth 20000 in
theorem tm_4_203 : Cond.selects "FormatDump$PairReader" yX7_readPage yX7_readPage ∈ GT := GT_4 203 rfl rfl
set_option maxRecDepth 20000 in
theorem tm_4_204 : Cond.code yX7_readPage cX7_readPage 6 (Option.some Jvm.ClassFile.FieldType.boolean) ∈ GT := GT_4 204 rfl rfl
set_option maxRecDepth 20000 in
theorem tm_4_206 : Cond.methodLink "FormatDump$PairReader" 37 yX9_clear ∈ GT := GT_4 206 rfl rfl
set_option maxRecDepth 20000 in
theorem tm_4_207 : Cond.methodLink "FormatDump$PairReader" 40 yX9_size ∈ GT := GT_4 207 rfl rfl
set_option maxRecDepth 20000 in
theorem tm_4_208 : Cond.methodLink "FormatDump$PairReader" 44 yX7_readLine ∈ GT := GT_4 208 rfl rfl
set_option maxRecDepth 20000 in
theorem tm_4_210 : Cond.instanceMethod yX7_readLine ∈ GT := GT_4 210 rfl rfl
set_option maxRecDepth 20000 in
theorem tm_4_211 : Cond.code yX7_readLine cX7_readLine 5 (Option.some Jvm.ClassFile.FieldType.boolean) ∈ GT := GT_4 211 rfl rfl
set_option maxRecDepth 20000 in
theorem tm_4_212 : Cond.methodLink "FormatDump$PairReader" 48 yX7_readAddress ∈ GT := GT_4 212 rfl rfl
set_option maxRecDepth 20000 in
theorem tm_4_214 : Cond.instanceMethod yX7_readAddress ∈ GT := GT_4 214 rfl rfl
set_option maxRecDepth 20000 in
theorem tm_4_215 : Cond.code yX7_readAddress cX7_readAddress 2 (Option.some Jvm.ClassFile.FieldType.boolean) ∈ GT := GT_4 215 rfl rfl
set_option maxRecDepth 20000 in
theorem tm_4_216 : Cond.methodLink "FormatDump$PairReader" 66 yX9_at ∈ GT := GT_4 216 rfl rfl
set_option maxRecDepth 20000 in
theorem tm_4_218 : Cond.methodLink "FormatDump$PairReader" 52 yX7_readOne ∈ GT := GT_4 218 rfl rfl
set_option maxRecDepth 20000 in
theorem tm_4_220 : Cond.instanceMethod yX7_readOne ∈ GT := GT_4 220 rfl rfl
set_option maxRecDepth 20000 in
theorem tm_4_221 : Cond.code yX7_readOne cX7_readOne 2 (Option.some Jvm.ClassFile.FieldType.boolean) ∈ GT := GT_4 221 rfl rfl
set_option maxRecDepth 20000 in
theorem tm_4_222 : Cond.methodLink "FormatDump$PairReader" 56 yX7_readPairs ∈ GT := GT_4 222 rfl rfl
set_option maxRecDepth 20000 in
theorem tm_4_224 : Cond.instanceMethod yX7_readPairs ∈ GT := GT_4 224 rfl rfl
set_option maxRecDepth 20000 in
theorem tm_4_225 : Cond.code yX7_readPairs cX7_readPairs 4 (Option.some Jvm.ClassFile.FieldType.boolean) ∈ GT := GT_4 225 rfl rfl
set_option maxRecDepth 20000 in
theorem tm_4_226 : Cond.methodLink "FormatDump$PairReader" 72 yX7_readPair ∈ GT := GT_4 226 rfl rfl
set_option maxRecDepth 20000 in
theorem tm_4_228 : Cond.instanceMethod yX7_readPair ∈ GT := GT_4 228 rfl rfl
set_option maxRecDepth 20000 in
theorem tm_4_229 : Cond.code yX7_readPair cX7_readPair 3 (Option.some Jvm.ClassFile.FieldType.boolean) ∈ GT := GT_4 229 rfl rfl
set_option maxRecDepth 20000 in
theorem tm_4_230 : Cond.methodLink "FormatDump$PairReader" 78 yX9_add ∈ GT := GT_4 230 rfl rfl
set_option maxRecDepth 20000 in
theorem tm_4_232 : Cond.methodLink "FormatDump$PairReader" 60 yX7_readBlanks ∈ GT := GT_4 232 rfl rfl
set_option maxRecDepth 20000 in
theorem tm_4_234 : Cond.instanceMethod yX7_readBlanks ∈ GT := GT_4 234 rfl rfl
set_option maxRecDepth 20000 in
theorem tm_4_235 : Cond.code yX7_readBlanks cX7_readBlanks 2 (Option.some Jvm.ClassFile.FieldType.boolean) ∈ GT := GT_4 235 rfl rfl
set_option maxRecDepth 20000 in
theorem tm_4_236 : Cond.methodLink "FormatDump$PairReader" 63 yX7_readSeen ∈ GT := GT_4 236 rfl rfl
set_option maxRecDepth 20000 in
theorem tm_4_238 : Cond.instanceMethod yX7_readSeen ∈ GT := GT_4 238 rfl rfl
set_option maxRecDepth 20000 in
theorem tm_4_239 : Cond.code yX7_readSeen cX7_readSeen 2 (Option.some Jvm.ClassFile.FieldType.boolean) ∈ GT := GT_4 239 rfl rfl
set_option maxRecDepth 20000 in
theorem tm_5_1 : Cond.methodLink "FormatDump" 164 yX7_stop ∈ GT := GT_5 1 rfl rfl
set_option maxRecDepth 20000 in
theorem tm_5_2 : Cond.instanceMethod yX7_stop ∈ GT := GT_5 2 rfl rfl
set_option maxRecDepth 20000 in
theorem tm_5_3 : Cond.selects "FormatDump$PairReader" yX7_stop yX7_stop ∈ GT := GT_5 3 rfl rfl
set_option maxRecDepth 20000 in
theorem tm_5_4 : Cond.code yX7_stop cX7_stop 1 (Option.some Jvm.ClassFile.FieldType.int) ∈ GT := GT_5 4 rfl rfl
set_option maxRecDepth 20000 in
theorem tm_5_5 : Cond.methodLink "FormatDump" 167 yX7_found ∈ GT := GT_5 5 rfl rfl
set_option maxRecDepth 20000 in
theorem tm_5_6 : Cond.instanceMethod yX7_found ∈ GT := GT_5 6 rfl rfl
set_option maxRecDepth 20000 in
theorem tm_5_7 : Cond.selects "FormatDump$PairReader" yX7_found yX7_found ∈ GT := GT_5 7 rfl rfl
set_option maxRecDepth 20000 in
theorem tm_5_8 : Cond.code yX7_found cX7_found 1 (Option.some (Jvm.ClassFile.FieldType.object "FormatDump$Row")) ∈ GT := GT_5 8 rfl rfl
set_option maxRecDepth 20000 in
theorem tm_5_9 : Cond.methodLink "FormatDump" 174 yX9_copyOf ∈ GT := GT_5 9 rfl rfl
set_option maxRecDepth 20000 in
theorem tm_5_10 : Cond.methodLink "FormatDumpLaw" 118 yL_patch ∈ GT := GT_5 10 rfl rfl
set_option maxRecDepth 20000 in
theorem tm_5_11 : Cond.static yL_patch ∈ GT := GT_5 11 rfl rfl
set_option maxRecDepth 20000 in
theorem tm_5_13 : Cond.classLink "FormatDumpLaw" 51 "java/lang/IndexOutOfBoundsException" ∈ GT := GT_5 13 rfl rfl
set_option maxRecDepth 20000 in
theorem tm_5_14 : Cond.methodLink "FormatDumpLaw" 48 yX11_patch ∈ GT := GT_5 14 rfl rfl
set_option maxRecDepth 20000 in
theorem tm_5_15 : Cond.instanceMethod yX11_patch ∈ GT := GT_5 15 rfl rfl
set_option maxRecDepth 20000 in
theorem tm_5_16 : Cond.selects "FormatDump" yX11_patch yX11_patch ∈ GT := GT_5 16 rfl rfl
set_option maxRecDepth 20000 in
theorem tm_5_17 : Cond.code yX11_patch cX11_patch 4 (Option.some Jvm.ClassFile.FieldType.int) ∈ GT := GT_5 17 rfl rfl
set_option maxRecDepth 20000 in
theorem tm_5_18 : Cond.classLink "FormatDump" 180 "java/lang/IndexOutOfBoundsException" ∈ GT := GT_5 18 rfl rfl
set_option maxRecDepth 20000 in
theorem tm_5_19 : Cond.instantiable "java/lang/IndexOutOfBoundsException" 6 ∈ GT := GT_5 19 rfl rfl
set_option maxRecDepth 20000 in
theorem tm_5_21 : Cond.selects "java/lang/IndexOutOfBoundsException" (⟨"java/lang/Throwable", "fillInStackTrace", "(I)Ljava/lang/Throwable;"⟩ : MethodName) (⟨"java/lang/Throwable", "fillInStackTrace", "(I)Ljava/lang/Throwable;"⟩ : MethodName) ∈ GT := GT_5 21 rfl rfl
set_option maxRecDepth 20000 in
theorem tm_5_27 : Cond.methodLink "FormatDump" 182 (⟨"java/lang/IndexOutOfBoundsException", "<init>", "()V"⟩ : MethodName) ∈ GT := GT_5 27 rfl rfl
set_option maxRecDepth 20000 in
theorem tm_5_28 : Cond.instanceMethod (⟨"java/lang/IndexOutOfBoundsException", "<init>", "()V"⟩ : MethodName) ∈ GT := GT_5 28 rfl rfl
set_option maxRecDepth 20000 in
theorem tm_5_29 : Cond.code (⟨"java/lang/IndexOutOfBoundsException", "<init>", "()V"⟩ : MethodName) prog_18_method_1_code 1 (Option.none : Option Jvm.ClassFile.FieldType) ∈ GT := GT_5 29 rfl rfl
set_option maxRecDepth 20000 in
theorem tm_5_30 : Cond.methodLink "java/lang/IndexOutOfBoundsException" 1 (⟨"java/lang/RuntimeException", "<init>", "()V"⟩ : MethodName) ∈ GT := GT_5 30 rfl rfl
set_option maxRecDepth 20000 in
theorem tm_5_33 : Cond.methodLink "FormatDump" 183 yX9_change ∈ GT := GT_5 33 rfl rfl
set_option maxRecDepth 20000 in
theorem tm_5_34 : Cond.instanceMethod yX9_change ∈ GT := GT_5 34 rfl rfl
set_option maxRecDepth 20000 in
theorem tm_5_35 : Cond.selects "FormatDump$Row" yX9_change yX9_change ∈ GT := GT_5 35 rfl rfl
set_option maxRecDepth 20000 in
theorem tm_5_36 : Cond.code yX9_change cX9_change 3 (Option.none : Option Jvm.ClassFile.FieldType) ∈ GT := GT_5 36 rfl rfl
set_option maxRecDepth 20000 in
theorem tm_5_37 : Cond.methodLink "FormatDumpLaw" 121 yL_trim ∈ GT := GT_5 37 rfl rfl
set_option maxRecDepth 20000 in
theorem tm_5_38 : Cond.static yL_trim ∈ GT := GT_5 38 rfl rfl
set_option maxRecDepth 20000 in
theorem tm_5_40 : Cond.methodLink "FormatDumpLaw" 53 yX11_trim ∈ GT := GT_5 40 rfl rfl
set_option maxRecDepth 20000 in
theorem tm_5_41 : Cond.instanceMethod yX11_trim ∈ GT := GT_5 41 rfl rfl
set_option maxRecDepth 20000 in
theorem tm_5_42 : Cond.selects "FormatDump" yX11_trim yX11_trim ∈ GT := GT_5 42 rfl rfl
set_option maxRecDepth 20000 in
theorem tm_5_43 : Cond.code yX11_trim cX11_trim 2 (Option.some Jvm.ClassFile.FieldType.int) ∈ GT := GT_5 43 rfl rfl
set_option maxRecDepth 20000 in
theorem tm_5_44 : Cond.classLink "FormatDumpLaw" 57 "FormatDumpModel" ∈ GT := GT_5 44 rfl rfl
set_option maxRecDepth 20000 in
theorem tm_5_45 : Cond.instantiable "FormatDumpModel" 36 ∈ GT := GT_5 45 rfl rfl
set_option maxRecDepth 20000 in
theorem tm_5_46 : Cond.methodLink "FormatDumpLaw" 59 yX12_init ∈ GT := GT_5 46 rfl rfl
set_option maxRecDepth 20000 in
theorem tm_5_47 : Cond.instanceMethod yX12_init ∈ GT := GT_5 47 rfl rfl
set_option maxRecDepth 20000 in
theorem tm_5_48 : Cond.code yX12_init cX12_init 1 (Option.none : Option Jvm.ClassFile.FieldType) ∈ GT := GT_5 48 rfl rfl
set_option maxRecDepth 20000 in
theorem tm_5_49 : Cond.methodLink "FormatDumpModel" 1 (⟨"java/lang/Object", "<init>", "()V"⟩ : MethodName) ∈ GT := GT_5 49 rfl rfl
set_option maxRecDepth 20000 in
theorem tm_5_50 : Cond.fieldLink "FormatDumpModel" 50 "FormatDumpModel" "fault" "I" ∈ GT := GT_5 50 rfl rfl
set_option maxRecDepth 20000 in
theorem tm_5_51 : Cond.fieldLink "FormatDumpModel" 7 "FormatDumpModel" "line" "[C" ∈ GT := GT_5 51 rfl rfl
set_option maxRecDepth 20000 in
theorem tm_5_52 : Cond.fieldLink "FormatDumpModel" 53 "FormatDumpModel" "lineSize" "I" ∈ GT := GT_5 52 rfl rfl
set_option maxRecDepth 20000 in
theorem tm_5_53 : Cond.fieldLink "FormatDumpModel" 64 "FormatDumpModel" "arguments" "I" ∈ GT := GT_5 53 rfl rfl
set_option maxRecDepth 20000 in
theorem tm_5_54 : Cond.fieldLink "FormatDumpModel" 13 "FormatDumpModel" "isText" "[Z" ∈ GT := GT_5 54 rfl rfl
set_option maxRecDepth 20000 in
theorem tm_5_55 : Cond.fieldLink "FormatDumpModel" 17 "FormatDumpModel" "numbers" "[J" ∈ GT := GT_5 55 rfl rfl
set_option maxRecDepth 20000 in
theorem tm_5_56 : Cond.fieldLink "FormatDumpModel" 21 "FormatDumpModel" "textSize" "[I" ∈ GT := GT_5 56 rfl rfl
set_option maxRecDepth 20000 in
theorem tm_5_57 : Cond.fieldLink "FormatDumpModel" 25 "FormatDumpModel" "texts" "[C" ∈ GT := GT_5 57 rfl rfl
set_option maxRecDepth 20000 in
theorem tm_5_58 : Cond.fieldLink "FormatDumpModel" 230 "FormatDumpModel" "dataSize" "I" ∈ GT := GT_5 58 rfl rfl
set_option maxRecDepth 20000 in
theorem tm_5_59 : Cond.fieldLink "FormatDumpModel" 28 "FormatDumpModel" "bytes" "[I" ∈ GT := GT_5 59 rfl rfl
set_option maxRecDepth 20000 in
theorem tm_5_60 : Cond.fieldLink "FormatDumpModel" 31 "FormatDumpModel" "room" "I" ∈ GT := GT_5 60 rfl rfl
set_option maxRecDepth 20000 in
theorem tm_5_61 : Cond.fieldLink "FormatDumpModel" 71 "FormatDumpModel" "outSize" "I" ∈ GT := GT_5 61 rfl rfl
set_option maxRecDepth 20000 in
theorem tm_5_62 : Cond.fieldLink "FormatDumpModel" 35 "FormatDumpModel" "out" "[C" ∈ GT := GT_5 62 rfl rfl
set_option maxRecDepth 20000 in
theorem tm_5_63 : Cond.fieldLink "FormatDumpModel" 74 "FormatDumpModel" "isFull" "Z" ∈ GT := GT_5 63 rfl rfl
set_option maxRecDepth 20000 in
theorem tm_5_64 : Cond.fieldLink "FormatDumpModel" 38 "FormatDumpModel" "faultPlace" "I" ∈ GT := GT_5 64 rfl rfl
set_option maxRecDepth 20000 in
theorem tm_5_65 : Cond.fieldLink "FormatDumpModel" 224 "FormatDumpModel" "odds" "I" ∈ GT := GT_5 65 rfl rfl
set_option maxRecDepth 20000 in
theorem tm_5_66 : Cond.fieldLink "FormatDumpModel" 149 "FormatDumpModel" "oddNow" "I" ∈ GT := GT_5 66 rfl rfl
set_option maxRecDepth 20000 in
theorem tm_5_67 : Cond.fieldLink "FormatDumpModel" 156 "FormatDumpModel" "next" "I" ∈ GT := GT_5 67 rfl rfl
set_option maxRecDepth 20000 in
theorem tm_5_68 : Cond.fieldLink "FormatDumpModel" 188 "FormatDumpModel" "ends" "Z" ∈ GT := GT_5 68 rfl rfl
set_option maxRecDepth 20000 in
theorem tm_5_69 : Cond.fieldLink "FormatDumpModel" 106 "FormatDumpModel" "at" "I" ∈ GT := GT_5 69 rfl rfl
set_option maxRecDepth 20000 in
theorem tm_5_70 : Cond.fieldLink "FormatDumpModel" 91 "FormatDumpModel" "minus" "Z" ∈ GT := GT_5 70 rfl rfl
set_option maxRecDepth 20000 in
theorem tm_5_71 : Cond.fieldLink "FormatDumpModel" 94 "FormatDumpModel" "plus" "Z" ∈ GT := GT_5 71 rfl rfl
set_option maxRecDepth 20000 in
theorem tm_5_72 : Cond.fieldLink "FormatDumpModel" 97 "FormatDumpModel" "blank" "Z" ∈ GT := GT_5 72 rfl rfl
set_option maxRecDepth 20000 in
theorem tm_5_73 : Cond.fieldLink "FormatDumpModel" 100 "FormatDumpModel" "sharp" "Z" ∈ GT := GT_5 73 rfl rfl
set_option maxRecDepth 20000 in
theorem tm_5_74 : Cond.fieldLink "FormatDumpModel" 103 "FormatDumpModel" "zero" "Z" ∈ GT := GT_5 74 rfl rfl
set_option maxRecDepth 20000 in
theorem tm_5_75 : Cond.fieldLink "FormatDumpModel" 113 "FormatDumpModel" "width" "I" ∈ GT := GT_5 75 rfl rfl
set_option maxRecDepth 20000 in
theorem tm_5_76 : Cond.fieldLink "FormatDumpModel" 120 "FormatDumpModel" "precision" "I" ∈ GT := GT_5 76 rfl rfl
set_option maxRecDepth 20000 in
theorem tm_5_77 : Cond.fieldLink "FormatDumpModel" 123 "FormatDumpModel" "bits" "I" ∈ GT := GT_5 77 rfl rfl
set_option maxRecDepth 20000 in
theorem tm_5_78 : Cond.fieldLink "FormatDumpModel" 126 "FormatDumpModel" "kind" "C" ∈ GT := GT_5 78 rfl rfl
set_option maxRecDepth 20000 in
theorem tm_5_79 : Cond.fieldLink "FormatDumpModel" 41 "FormatDumpModel" "row" "[C" ∈ GT := GT_5 79 rfl rfl
set_option maxRecDepth 20000 in
theorem tm_5_80 : Cond.fieldLink "FormatDumpModel" 163 "FormatDumpModel" "rowSize" "I" ∈ GT := GT_5 80 rfl rfl
set_option maxRecDepth 20000 in
theorem tm_5_81 : Cond.fieldLink "FormatDumpModel" 44 "FormatDumpModel" "digits" "[C" ∈ GT := GT_5 81 rfl rfl
set_option maxRecDepth 20000 in
theorem tm_5_82 : Cond.fieldLink "FormatDumpModel" 78 "FormatDumpModel" "digitCount" "I" ∈ GT := GT_5 82 rfl rfl
set_option maxRecDepth 20000 in
theorem tm_5_83 : Cond.fieldLink "FormatDumpModel" 47 "FormatDumpModel" "found" "[I" ∈ GT := GT_5 83 rfl rfl
set_option maxRecDepth 20000 in
theorem tm_5_84 : Cond.fieldLink "FormatDumpModel" 264 "FormatDumpModel" "foundSize" "I" ∈ GT := GT_5 84 rfl rfl
set_option maxRecDepth 20000 in
theorem tm_5_85 : Cond.fieldLink "FormatDumpModel" 261 "FormatDumpModel" "read" "I" ∈ GT := GT_5 85 rfl rfl
set_option maxRecDepth 20000 in
theorem tm_5_159 : Cond.arrayClass Jvm.ClassFile.FieldType.char ∈ GT := GT_5 159 rfl rfl
set_option maxRecDepth 20000 in
theorem tm_5_160 : Cond.arrayClass Jvm.ClassFile.FieldType.boolean ∈ GT := GT_5 160 rfl rfl
set_option maxRecDepth 20000 in
theorem tm_5_161 : Cond.arrayClass Jvm.ClassFile.FieldType.long ∈ GT := GT_5 161 rfl rfl
set_option maxRecDepth 20000 in
theorem tm_5_162 : Cond.methodLink "FormatDumpLaw" 66 yX12_thrown ∈ GT := GT_5 162 rfl rfl
set_option maxRecDepth 20000 in
theorem tm_5_163 : Cond.instanceMethod yX12_thrown ∈ GT := GT_5 163 rfl rfl
set_option maxRecDepth 20000 in
theorem tm_5_164 : Cond.selects "FormatDumpModel" yX12_thrown yX12_thrown ∈ GT := GT_5 164 rfl rfl
set_option maxRecDepth 20000 in
theorem tm_5_165 : Cond.code yX12_thrown cX12_thrown 1 (Option.some Jvm.ClassFile.FieldType.int) ∈ GT := GT_5 165 rfl rfl
set_option maxRecDepth 20000 in
theorem tm_5_166 : Cond.methodLink "FormatDumpLaw" 65 yX12_type ∈ GT := GT_5 166 rfl rfl
set_option maxRecDepth 20000 in
theorem tm_5_167 : Cond.instanceMethod yX12_type ∈ GT := GT_5 167 rfl rfl
set_option maxRecDepth 20000 in
theorem tm_5_168 : Cond.selects "FormatDumpModel" yX12_type yX12_type ∈ GT := GT_5 168 rfl rfl
set_option maxRecDepth 20000 in
theorem tm_5_169 : Cond.code yX12_type cX12_type 7 (Option.some Jvm.ClassFile.FieldType.int) ∈ GT := GT_5 169 rfl rfl
set_option maxRecDepth 20000 in
theorem tm_5_170 : Cond.methodLink "FormatDumpModel" 56 yX12_typed ∈ GT := GT_5 170 rfl rfl
set_option maxRecDepth 20000 in
theorem tm_5_172 : Cond.instanceMethod yX12_typed ∈ GT := GT_5 172 rfl rfl
set_option maxRecDepth 20000 in
theorem tm_5_173 : Cond.code yX12_typed cX12_typed 6 (Option.some Jvm.ClassFile.FieldType.int) ∈ GT := GT_5 173 rfl rfl
set_option maxRecDepth 20000 in
theorem tm_5_174 : Cond.methodLink "FormatDumpModel" 60 yX12_refused ∈ GT := GT_5 174 rfl rfl
set_option maxRecDepth 20000 in
theorem tm_5_176 : Cond.instanceMethod yX12_refused ∈ GT := GT_5 176 rfl rfl
set_option maxRecDepth 20000 in
theorem tm_5_177 : Cond.code yX12_refused cX12_refused 2 (Option.some Jvm.ClassFile.FieldType.boolean) ∈ GT := GT_5 177 rfl rfl
set_option maxRecDepth 20000 in
theorem tm_5_178 : Cond.methodLink "FormatDumpLaw" 72 yX12_erase ∈ GT := GT_5 178 rfl rfl
set_option maxRecDepth 20000 in
theorem tm_5_179 : Cond.instanceMethod yX12_erase ∈ GT := GT_5 179 rfl rfl
set_option maxRecDepth 20000 in
theorem tm_5_180 : Cond.selects "FormatDumpModel" yX12_erase yX12_erase ∈ GT := GT_5 180 rfl rfl
set_option maxRecDepth 20000 in
theorem tm_5_181 : Cond.code yX12_erase cX12_erase 2 (Option.some Jvm.ClassFile.FieldType.int) ∈ GT := GT_5 181 rfl rfl
set_option maxRecDepth 20000 in
theorem tm_5_182 : Cond.methodLink "FormatDumpLaw" 78 yX12_number ∈ GT := GT_5 182 rfl rfl
set_option maxRecDepth 20000 in
theorem tm_5_183 : Cond.instanceMethod yX12_number ∈ GT := GT_5 183 rfl rfl
set_option maxRecDepth 20000 in
theorem tm_5_184 : Cond.selects "FormatDumpModel" yX12_number yX12_number ∈ GT := GT_5 184 rfl rfl
set_option maxRecDepth 20000 in
theorem tm_5_185 : Cond.code yX12_number cX12_number 3 (Option.some Jvm.ClassFile.FieldType.int) ∈ GT := GT_5 185 rfl rfl
set_option maxRecDepth 20000 in
theorem tm_5_186 : Cond.methodLink "FormatDumpLaw" 82 yX12_text ∈ GT := GT_5 186 rfl rfl
set_option maxRecDepth 20000 in
theorem tm_5_187 : Cond.instanceMethod yX12_text ∈ GT := GT_5 187 rfl rfl
set_option maxRecDepth 20000 in
theorem tm_5_188 : Cond.selects "FormatDumpModel" yX12_text yX12_text ∈ GT := GT_5 188 rfl rfl
set_option maxRecDepth 20000 in
theorem tm_5_189 : Cond.code yX12_text cX12_text 2 (Option.some Jvm.ClassFile.FieldType.int) ∈ GT := GT_5 189 rfl rfl
set_option maxRecDepth 20000 in
theorem tm_5_190 : Cond.methodLink "FormatDumpLaw" 86 yX12_none ∈ GT := GT_5 190 rfl rfl
set_option maxRecDepth 20000 in
theorem tm_5_191 : Cond.instanceMethod yX12_none ∈ GT := GT_5 191 rfl rfl
set_option maxRecDepth 20000 in
theorem tm_5_192 : Cond.selects "FormatDumpModel" yX12_none yX12_none ∈ GT := GT_5 192 rfl rfl
set_option maxRecDepth 20000 in
theorem tm_5_193 : Cond.code yX12_none cX12_none 2 (Option.some Jvm.ClassFile.FieldType.int) ∈ GT := GT_5 193 rfl rfl
set_option maxRecDepth 20000 in
theorem tm_5_194 : Cond.methodLink "FormatDumpLaw" 90 yX12_room ∈ GT := GT_5 194 rfl rfl
set_option maxRecDepth 20000 in
theorem tm_5_195 : Cond.instanceMethod yX12_room ∈ GT := GT_5 195 rfl rfl
set_option maxRecDepth 20000 in
theorem tm_5_196 : Cond.selects "FormatDumpModel" yX12_room yX12_room ∈ GT := GT_5 196 rfl rfl
set_option maxRecDepth 20000 in
theorem tm_5_197 : Cond.code yX12_room cX12_room 2 (Option.none : Option Jvm.ClassFile.FieldType) ∈ GT := GT_5 197 rfl rfl
set_option maxRecDepth 20000 in
theorem tm_5_198 : Cond.methodLink "FormatDumpModel" 67 yX12_isIn ∈ GT := GT_5 198 rfl rfl
set_option maxRecDepth 20000 in
theorem tm_5_199 : Cond.static yX12_isIn ∈ GT := GT_5 199 rfl rfl
set_option maxRecDepth 20000 in
theorem tm_5_200 : Cond.code yX12_isIn cX12_isIn 3 (Option.some Jvm.ClassFile.FieldType.boolean) ∈ GT := GT_5 200 rfl rfl
set_option maxRecDepth 20000 in
theorem tm_5_201 : Cond.methodLink "FormatDumpLaw" 94 yX12_print ∈ GT := GT_5 201 rfl rfl
set_option maxRecDepth 20000 in
theorem tm_5_202 : Cond.instanceMethod yX12_print ∈ GT := GT_5 202 rfl rfl
set_option maxRecDepth 20000 in
theorem tm_5_203 : Cond.selects "FormatDumpModel" yX12_print yX12_print ∈ GT := GT_5 203 rfl rfl
set_option maxRecDepth 20000 in
theorem tm_5_204 : Cond.code yX12_print cX12_print 3 (Option.some Jvm.ClassFile.FieldType.int) ∈ GT := GT_5 204 rfl rfl
set_option maxRecDepth 20000 in
theorem tm_5_205 : Cond.methodLink "FormatDumpModel" 215 yX12_badAt ∈ GT := GT_5 205 rfl rfl
set_option maxRecDepth 20000 in
theorem tm_5_207 : Cond.instanceMethod yX12_badAt ∈ GT := GT_5 207 rfl rfl
set_option maxRecDepth 20000 in
theorem tm_5_208 : Cond.code yX12_badAt cX12_badAt 4 (Option.some Jvm.ClassFile.FieldType.int) ∈ GT := GT_5 208 rfl rfl
set_option maxRecDepth 20000 in
theorem tm_5_209 : Cond.methodLink "FormatDumpModel" 138 yX12_readEscape ∈ GT := GT_5 209 rfl rfl
set_option maxRecDepth 20000 in
theorem tm_5_211 : Cond.instanceMethod yX12_readEscape ∈ GT := GT_5 211 rfl rfl
set_option maxRecDepth 20000 in
theorem tm_5_212 : Cond.code yX12_readEscape cX12_readEscape 4 (Option.some Jvm.ClassFile.FieldType.int) ∈ GT := GT_5 212 rfl rfl
set_option maxRecDepth 20000 in
theorem tm_5_213 : Cond.methodLink "FormatDumpModel" 109 yX12_charAt ∈ GT := GT_5 213 rfl rfl
set_option maxRecDepth 20000 in
theorem tm_5_215 : Cond.instanceMethod yX12_charAt ∈ GT := GT_5 215 rfl rfl
set_option maxRecDepth 20000 in
theorem tm_5_216 : Cond.code yX12_charAt cX12_charAt 2 (Option.some Jvm.ClassFile.FieldType.char) ∈ GT := GT_5 216 rfl rfl
set_option maxRecDepth 20000 in
theorem tm_5_217 : Cond.methodLink "FormatDumpModel" 130 yX12_isOctal ∈ GT := GT_5 217 rfl rfl
set_option maxRecDepth 20000 in
theorem tm_5_218 : Cond.static yX12_isOctal ∈ GT := GT_5 218 rfl rfl
set_option maxRecDepth 20000 in
theorem tm_5_219 : Cond.code yX12_isOctal cX12_isOctal 1 (Option.some Jvm.ClassFile.FieldType.boolean) ∈ GT := GT_5 219 rfl rfl
set_option maxRecDepth 20000 in
theorem tm_5_220 : Cond.methodLink "FormatDumpModel" 134 yX12_escapeOf ∈ GT := GT_5 220 rfl rfl
set_option maxRecDepth 20000 in
theorem tm_5_221 : Cond.static yX12_escapeOf ∈ GT := GT_5 221 rfl rfl
set_option maxRecDepth 20000 in
theorem tm_5_222 : Cond.code yX12_escapeOf cX12_escapeOf 1 (Option.some Jvm.ClassFile.FieldType.int) ∈ GT := GT_5 222 rfl rfl
set_option maxRecDepth 20000 in
theorem tm_5_223 : Cond.methodLink "FormatDumpModel" 141 yX12_readDirective ∈ GT := GT_5 223 rfl rfl
set_option maxRecDepth 20000 in
theorem tm_5_225 : Cond.instanceMethod yX12_readDirective ∈ GT := GT_5 225 rfl rfl
set_option maxRecDepth 20000 in
theorem tm_5_226 : Cond.code yX12_readDirective cX12_readDirective 4 (Option.some Jvm.ClassFile.FieldType.boolean) ∈ GT := GT_5 226 rfl rfl
set_option maxRecDepth 20000 in
theorem tm_5_227 : Cond.methodLink "FormatDumpModel" 116 yX12_readTwo ∈ GT := GT_5 227 rfl rfl
set_option maxRecDepth 20000 in
theorem tm_5_229 : Cond.instanceMethod yX12_readTwo ∈ GT := GT_5 229 rfl rfl
set_option maxRecDepth 20000 in
theorem tm_5_230 : Cond.code yX12_readTwo cX12_readTwo 3 (Option.some Jvm.ClassFile.FieldType.int) ∈ GT := GT_5 230 rfl rfl
set_option maxRecDepth 20000 in
theorem tm_5_231 : Cond.methodLink "FormatDumpModel" 218 yX12_begin ∈ GT := GT_5 231 rfl rfl
set_option maxRecDepth 20000 in
theorem tm_5_233 : Cond.instanceMethod yX12_begin ∈ GT := GT_5 233 rfl rfl
set_option maxRecDepth 20000 in
theorem tm_5_234 : Cond.code yX12_begin cX12_begin 1 (Option.none : Option Jvm.ClassFile.FieldType) ∈ GT := GT_5 234 rfl rfl
set_option maxRecDepth 20000 in
theorem tm_5_235 : Cond.methodLink "FormatDumpModel" 221 yX12_printOnce ∈ GT := GT_5 235 rfl rfl
set_option maxRecDepth 20000 in
theorem tm_5_237 : Cond.instanceMethod yX12_printOnce ∈ GT := GT_5 237 rfl rfl
set_option maxRecDepth 20000 in
theorem tm_5_238 : Cond.code yX12_printOnce cX12_printOnce 2 (Option.none : Option Jvm.ClassFile.FieldType) ∈ GT := GT_5 238 rfl rfl
set_option maxRecDepth 20000 in
theorem tm_5_239 : Cond.methodLink "FormatDumpModel" 87 yX12_put ∈ GT := GT_5 239 rfl rfl
set_option maxRecDepth 20000 in
theorem tm_6_1 : Cond.instanceMethod yX12_put ∈ GT := GT_6 1 rfl rfl
set_option maxRecDepth 20000 in
theorem tm_6_2 : Cond.code yX12_put cX12_put 2 (Option.none : Option Jvm.ClassFile.FieldType) ∈ GT := GT_6 2 rfl rfl
set_option maxRecDepth 20000 in
theorem tm_6_3 : Cond.methodLink "FormatDumpModel" 212 yX12_printDirective ∈ GT := GT_6 3 rfl rfl
set_option maxRecDepth 20000 in
theorem tm_6_5 : Cond.instanceMethod yX12_printDirective ∈ GT := GT_6 5 rfl rfl
set_option maxRecDepth 20000 in
theorem tm_6_6 : Cond.code yX12_printDirective cX12_printDirective 3 (Option.none : Option Jvm.ClassFile.FieldType) ∈ GT := GT_6 6 rfl rfl
set_option maxRecDepth 20000 in
theorem tm_6_7 : Cond.methodLink "FormatDumpModel" 177 yX12_takeNumber ∈ GT := GT_6 7 rfl rfl
set_option maxRecDepth 20000 in
theorem tm_6_9 : Cond.instanceMethod yX12_takeNumber ∈ GT := GT_6 9 rfl rfl
set_option maxRecDepth 20000 in
theorem tm_6_10 : Cond.code yX12_takeNumber cX12_takeNumber 2 (Option.some Jvm.ClassFile.FieldType.long) ∈ GT := GT_6 10 rfl rfl
set_option maxRecDepth 20000 in
theorem tm_6_11 : Cond.methodLink "FormatDumpModel" 159 yX12_textNumber ∈ GT := GT_6 11 rfl rfl
set_option maxRecDepth 20000 in
theorem tm_6_13 : Cond.instanceMethod yX12_textNumber ∈ GT := GT_6 13 rfl rfl
set_option maxRecDepth 20000 in
theorem tm_6_14 : Cond.code yX12_textNumber cX12_textNumber 9 (Option.some Jvm.ClassFile.FieldType.long) ∈ GT := GT_6 14 rfl rfl
set_option maxRecDepth 20000 in
theorem tm_6_15 : Cond.methodLink "FormatDumpModel" 145 yX12_textAt ∈ GT := GT_6 15 rfl rfl
set_option maxRecDepth 20000 in
theorem tm_6_17 : Cond.instanceMethod yX12_textAt ∈ GT := GT_6 17 rfl rfl
set_option maxRecDepth 20000 in
theorem tm_6_18 : Cond.code yX12_textAt cX12_textAt 3 (Option.some Jvm.ClassFile.FieldType.char) ∈ GT := GT_6 18 rfl rfl
set_option maxRecDepth 20000 in
theorem tm_6_19 : Cond.methodLink "FormatDumpModel" 152 yX12_baseDigit ∈ GT := GT_6 19 rfl rfl
set_option maxRecDepth 20000 in
theorem tm_6_20 : Cond.static yX12_baseDigit ∈ GT := GT_6 20 rfl rfl
set_option maxRecDepth 20000 in
theorem tm_6_21 : Cond.code yX12_baseDigit cX12_baseDigit 3 (Option.some Jvm.ClassFile.FieldType.int) ∈ GT := GT_6 21 rfl rfl
set_option maxRecDepth 20000 in
theorem tm_6_22 : Cond.methodLink "FormatDumpModel" 191 yX12_cutTo ∈ GT := GT_6 22 rfl rfl
set_option maxRecDepth 20000 in
theorem tm_6_23 : Cond.static yX12_cutTo ∈ GT := GT_6 23 rfl rfl
set_option maxRecDepth 20000 in
theorem tm_6_24 : Cond.code yX12_cutTo cX12_cutTo 2 (Option.some Jvm.ClassFile.FieldType.int) ∈ GT := GT_6 24 rfl rfl
set_option maxRecDepth 20000 in
theorem tm_6_25 : Cond.constantLong "FormatDumpModel" 173 (-99) ∈ GT := GT_6 25 rfl rfl
set_option maxRecDepth 20000 in
theorem tm_6_26 : Cond.constantLong "FormatDumpModel" 175 (99) ∈ GT := GT_6 26 rfl rfl
set_option maxRecDepth 20000 in
theorem tm_6_27 : Cond.methodLink "FormatDumpModel" 195 yX12_takeText ∈ GT := GT_6 27 rfl rfl
set_option maxRecDepth 20000 in
theorem tm_6_29 : Cond.instanceMethod yX12_takeText ∈ GT := GT_6 29 rfl rfl
set_option maxRecDepth 20000 in
theorem tm_6_30 : Cond.code yX12_takeText cX12_takeText 5 (Option.none : Option Jvm.ClassFile.FieldType) ∈ GT := GT_6 30 rfl rfl
set_option maxRecDepth 20000 in
theorem tm_6_31 : Cond.methodLink "FormatDumpModel" 166 yX12_reckon ∈ GT := GT_6 31 rfl rfl
set_option maxRecDepth 20000 in
theorem tm_6_33 : Cond.instanceMethod yX12_reckon ∈ GT := GT_6 33 rfl rfl
set_option maxRecDepth 20000 in
theorem tm_6_34 : Cond.code yX12_reckon cX12_reckon 9 (Option.none : Option Jvm.ClassFile.FieldType) ∈ GT := GT_6 34 rfl rfl
set_option maxRecDepth 20000 in
theorem tm_6_35 : Cond.constantLong "FormatDumpModel" 81 (5) ∈ GT := GT_6 35 rfl rfl
set_option maxRecDepth 20000 in
theorem tm_6_36 : Cond.methodLink "FormatDumpModel" 83 yX12_digit ∈ GT := GT_6 36 rfl rfl
set_option maxRecDepth 20000 in
theorem tm_6_37 : Cond.static yX12_digit ∈ GT := GT_6 37 rfl rfl
set_option maxRecDepth 20000 in
theorem tm_6_38 : Cond.code yX12_digit cX12_digit 2 (Option.some Jvm.ClassFile.FieldType.char) ∈ GT := GT_6 38 rfl rfl
set_option maxRecDepth 20000 in
theorem tm_6_39 : Cond.methodLink "FormatDumpModel" 170 yX12_fill ∈ GT := GT_6 39 rfl rfl
set_option maxRecDepth 20000 in
theorem tm_6_41 : Cond.instanceMethod yX12_fill ∈ GT := GT_6 41 rfl rfl
set_option maxRecDepth 20000 in
theorem tm_6_42 : Cond.code yX12_fill cX12_fill 2 (Option.none : Option Jvm.ClassFile.FieldType) ∈ GT := GT_6 42 rfl rfl
set_option maxRecDepth 20000 in
theorem tm_6_43 : Cond.constantLong "FormatDumpModel" 198 (255) ∈ GT := GT_6 43 rfl rfl
set_option maxRecDepth 20000 in
theorem tm_6_44 : Cond.methodLink "FormatDumpModel" 200 yX12_noArgument ∈ GT := GT_6 44 rfl rfl
set_option maxRecDepth 20000 in
theorem tm_6_46 : Cond.instanceMethod yX12_noArgument ∈ GT := GT_6 46 rfl rfl
set_option maxRecDepth 20000 in
theorem tm_6_47 : Cond.code yX12_noArgument cX12_noArgument 1 (Option.some Jvm.ClassFile.FieldType.int) ∈ GT := GT_6 47 rfl rfl
set_option maxRecDepth 20000 in
theorem tm_6_48 : Cond.methodLink "FormatDumpModel" 203 yX12_printRow ∈ GT := GT_6 48 rfl rfl
set_option maxRecDepth 20000 in
theorem tm_6_50 : Cond.instanceMethod yX12_printRow ∈ GT := GT_6 50 rfl rfl
set_option maxRecDepth 20000 in
theorem tm_6_51 : Cond.code yX12_printRow cX12_printRow 3 (Option.none : Option Jvm.ClassFile.FieldType) ∈ GT := GT_6 51 rfl rfl
set_option maxRecDepth 20000 in
theorem tm_6_52 : Cond.methodLink "FormatDumpModel" 181 yX12_putMany ∈ GT := GT_6 52 rfl rfl
set_option maxRecDepth 20000 in
theorem tm_6_54 : Cond.instanceMethod yX12_putMany ∈ GT := GT_6 54 rfl rfl
set_option maxRecDepth 20000 in
theorem tm_6_55 : Cond.code yX12_putMany cX12_putMany 4 (Option.none : Option Jvm.ClassFile.FieldType) ∈ GT := GT_6 55 rfl rfl
set_option maxRecDepth 20000 in
theorem tm_6_56 : Cond.methodLink "FormatDumpModel" 206 yX12_undo ∈ GT := GT_6 56 rfl rfl
set_option maxRecDepth 20000 in
theorem tm_6_58 : Cond.instanceMethod yX12_undo ∈ GT := GT_6 58 rfl rfl
set_option maxRecDepth 20000 in
theorem tm_6_59 : Cond.code yX12_undo cX12_undo 8 (Option.none : Option Jvm.ClassFile.FieldType) ∈ GT := GT_6 59 rfl rfl
set_option maxRecDepth 20000 in
theorem tm_6_60 : Cond.methodLink "FormatDumpModel" 209 yX12_printWhole ∈ GT := GT_6 60 rfl rfl
set_option maxRecDepth 20000 in
theorem tm_6_62 : Cond.instanceMethod yX12_printWhole ∈ GT := GT_6 62 rfl rfl
set_option maxRecDepth 20000 in
theorem tm_6_63 : Cond.code yX12_printWhole cX12_printWhole 13 (Option.none : Option Jvm.ClassFile.FieldType) ∈ GT := GT_6 63 rfl rfl
set_option maxRecDepth 20000 in
theorem tm_6_64 : Cond.methodLink "FormatDumpModel" 185 yX12_putDigits ∈ GT := GT_6 64 rfl rfl
set_option maxRecDepth 20000 in
theorem tm_6_66 : Cond.instanceMethod yX12_putDigits ∈ GT := GT_6 66 rfl rfl
set_option maxRecDepth 20000 in
theorem tm_6_67 : Cond.code yX12_putDigits cX12_putDigits 2 (Option.none : Option Jvm.ClassFile.FieldType) ∈ GT := GT_6 67 rfl rfl
set_option maxRecDepth 20000 in
theorem tm_6_68 : Cond.methodLink "FormatDumpModel" 227 yX12_end ∈ GT := GT_6 68 rfl rfl
set_option maxRecDepth 20000 in
theorem tm_6_70 : Cond.instanceMethod yX12_end ∈ GT := GT_6 70 rfl rfl
set_option maxRecDepth 20000 in
theorem tm_6_71 : Cond.code yX12_end cX12_end 1 (Option.some Jvm.ClassFile.FieldType.int) ∈ GT := GT_6 71 rfl rfl
set_option maxRecDepth 20000 in
theorem tm_6_72 : Cond.methodLink "FormatDumpLaw" 98 yX12_odd ∈ GT := GT_6 72 rfl rfl
set_option maxRecDepth 20000 in
theorem tm_6_73 : Cond.instanceMethod yX12_odd ∈ GT := GT_6 73 rfl rfl
set_option maxRecDepth 20000 in
theorem tm_6_74 : Cond.selects "FormatDumpModel" yX12_odd yX12_odd ∈ GT := GT_6 74 rfl rfl
set_option maxRecDepth 20000 in
theorem tm_6_75 : Cond.code yX12_odd cX12_odd 1 (Option.some Jvm.ClassFile.FieldType.int) ∈ GT := GT_6 75 rfl rfl
set_option maxRecDepth 20000 in
theorem tm_6_76 : Cond.methodLink "FormatDumpLaw" 101 yX12_feed ∈ GT := GT_6 76 rfl rfl
set_option maxRecDepth 20000 in
theorem tm_6_77 : Cond.instanceMethod yX12_feed ∈ GT := GT_6 77 rfl rfl
set_option maxRecDepth 20000 in
theorem tm_6_78 : Cond.selects "FormatDumpModel" yX12_feed yX12_feed ∈ GT := GT_6 78 rfl rfl
set_option maxRecDepth 20000 in
theorem tm_6_79 : Cond.code yX12_feed cX12_feed 8 (Option.some Jvm.ClassFile.FieldType.int) ∈ GT := GT_6 79 rfl rfl
set_option maxRecDepth 20000 in
theorem tm_6_80 : Cond.methodLink "FormatDumpLaw" 105 yX12_cut ∈ GT := GT_6 80 rfl rfl
set_option maxRecDepth 20000 in
theorem tm_6_81 : Cond.instanceMethod yX12_cut ∈ GT := GT_6 81 rfl rfl
set_option maxRecDepth 20000 in
theorem tm_6_82 : Cond.selects "FormatDumpModel" yX12_cut yX12_cut ∈ GT := GT_6 82 rfl rfl
set_option maxRecDepth 20000 in
theorem tm_6_83 : Cond.code yX12_cut cX12_cut 3 (Option.some Jvm.ClassFile.FieldType.int) ∈ GT := GT_6 83 rfl rfl
set_option maxRecDepth 20000 in
theorem tm_6_84 : Cond.methodLink "FormatDumpLaw" 109 yX12_words ∈ GT := GT_6 84 rfl rfl
set_option maxRecDepth 20000 in
theorem tm_6_85 : Cond.instanceMethod yX12_words ∈ GT := GT_6 85 rfl rfl
set_option maxRecDepth 20000 in
theorem tm_6_86 : Cond.selects "FormatDumpModel" yX12_words yX12_words ∈ GT := GT_6 86 rfl rfl
set_option maxRecDepth 20000 in
theorem tm_6_87 : Cond.code yX12_words cX12_words 9 (Option.some Jvm.ClassFile.FieldType.int) ∈ GT := GT_6 87 rfl rfl
set_option maxRecDepth 20000 in
theorem tm_6_88 : Cond.methodLink "FormatDumpModel" 244 yX12_isLikeBefore ∈ GT := GT_6 88 rfl rfl
set_option maxRecDepth 20000 in
theorem tm_6_90 : Cond.instanceMethod yX12_isLikeBefore ∈ GT := GT_6 90 rfl rfl
set_option maxRecDepth 20000 in
theorem tm_6_91 : Cond.code yX12_isLikeBefore cX12_isLikeBefore 4 (Option.some Jvm.ClassFile.FieldType.boolean) ∈ GT := GT_6 91 rfl rfl
set_option maxRecDepth 20000 in
theorem tm_6_92 : Cond.methodLink "FormatDumpModel" 247 yX12_putAddress ∈ GT := GT_6 92 rfl rfl
set_option maxRecDepth 20000 in
theorem tm_6_94 : Cond.instanceMethod yX12_putAddress ∈ GT := GT_6 94 rfl rfl
set_option maxRecDepth 20000 in
theorem tm_6_95 : Cond.code yX12_putAddress cX12_putAddress 4 (Option.none : Option Jvm.ClassFile.FieldType) ∈ GT := GT_6 95 rfl rfl
set_option maxRecDepth 20000 in
theorem tm_6_96 : Cond.methodLink "FormatDumpModel" 251 yX12_putField ∈ GT := GT_6 96 rfl rfl
set_option maxRecDepth 20000 in
theorem tm_6_98 : Cond.instanceMethod yX12_putField ∈ GT := GT_6 98 rfl rfl
set_option maxRecDepth 20000 in
theorem tm_6_99 : Cond.code yX12_putField cX12_putField 11 (Option.none : Option Jvm.ClassFile.FieldType) ∈ GT := GT_6 99 rfl rfl
set_option maxRecDepth 20000 in
theorem tm_6_100 : Cond.methodLink "FormatDumpModel" 233 yX12_index ∈ GT := GT_6 100 rfl rfl
set_option maxRecDepth 20000 in
theorem tm_6_101 : Cond.static yX12_index ∈ GT := GT_6 101 rfl rfl
set_option maxRecDepth 20000 in
theorem tm_6_102 : Cond.code yX12_index cX12_index 1 (Option.some Jvm.ClassFile.FieldType.int) ∈ GT := GT_6 102 rfl rfl
set_option maxRecDepth 20000 in
theorem tm_6_103 : Cond.methodLink "FormatDumpModel" 237 yX12_choose ∈ GT := GT_6 103 rfl rfl
set_option maxRecDepth 20000 in
theorem tm_6_104 : Cond.static yX12_choose ∈ GT := GT_6 104 rfl rfl
set_option maxRecDepth 20000 in
theorem tm_6_105 : Cond.code yX12_choose cX12_choose 5 (Option.some Jvm.ClassFile.FieldType.int) ∈ GT := GT_6 105 rfl rfl
set_option maxRecDepth 20000 in
theorem tm_6_106 : Cond.methodLink "FormatDumpModel" 241 yX12_putShown ∈ GT := GT_6 106 rfl rfl
set_option maxRecDepth 20000 in
theorem tm_6_108 : Cond.instanceMethod yX12_putShown ∈ GT := GT_6 108 rfl rfl
set_option maxRecDepth 20000 in
theorem tm_6_109 : Cond.code yX12_putShown cX12_putShown 3 (Option.none : Option Jvm.ClassFile.FieldType) ∈ GT := GT_6 109 rfl rfl
set_option maxRecDepth 20000 in
theorem tm_6_110 : Cond.methodLink "FormatDumpLaw" 113 yX12_pairs ∈ GT := GT_6 110 rfl rfl
set_option maxRecDepth 20000 in
theorem tm_6_111 : Cond.instanceMethod yX12_pairs ∈ GT := GT_6 111 rfl rfl
set_option maxRecDepth 20000 in
theorem tm_6_112 : Cond.selects "FormatDumpModel" yX12_pairs yX12_pairs ∈ GT := GT_6 112 rfl rfl
set_option maxRecDepth 20000 in
theorem tm_6_113 : Cond.code yX12_pairs cX12_pairs 8 (Option.some Jvm.ClassFile.FieldType.int) ∈ GT := GT_6 113 rfl rfl
set_option maxRecDepth 20000 in
theorem tm_6_114 : Cond.methodLink "FormatDumpModel" 255 yX12_isGroupEnd ∈ GT := GT_6 114 rfl rfl
set_option maxRecDepth 20000 in
theorem tm_6_115 : Cond.static yX12_isGroupEnd ∈ GT := GT_6 115 rfl rfl
set_option maxRecDepth 20000 in
theorem tm_6_116 : Cond.code yX12_isGroupEnd cX12_isGroupEnd 3 (Option.some Jvm.ClassFile.FieldType.boolean) ∈ GT := GT_6 116 rfl rfl
set_option maxRecDepth 20000 in
theorem tm_6_117 : Cond.methodLink "FormatDumpModel" 258 yX12_shown ∈ GT := GT_6 117 rfl rfl
set_option maxRecDepth 20000 in
theorem tm_6_118 : Cond.static yX12_shown ∈ GT := GT_6 118 rfl rfl
set_option maxRecDepth 20000 in
theorem tm_6_119 : Cond.code yX12_shown cX12_shown 1 (Option.some Jvm.ClassFile.FieldType.char) ∈ GT := GT_6 119 rfl rfl
set_option maxRecDepth 20000 in
theorem tm_6_120 : Cond.methodLink "FormatDumpLaw" 117 yX12_back ∈ GT := GT_6 120 rfl rfl
set_option maxRecDepth 20000 in
theorem tm_6_121 : Cond.instanceMethod yX12_back ∈ GT := GT_6 121 rfl rfl
set_option maxRecDepth 20000 in
theorem tm_6_122 : Cond.selects "FormatDumpModel" yX12_back yX12_back ∈ GT := GT_6 122 rfl rfl
set_option maxRecDepth 20000 in
theorem tm_6_123 : Cond.code yX12_back cX12_back 4 (Option.some Jvm.ClassFile.FieldType.int) ∈ GT := GT_6 123 rfl rfl
set_option maxRecDepth 20000 in
theorem tm_6_124 : Cond.methodLink "FormatDumpModel" 273 yX12_readLine ∈ GT := GT_6 124 rfl rfl
set_option maxRecDepth 20000 in
theorem tm_6_126 : Cond.instanceMethod yX12_readLine ∈ GT := GT_6 126 rfl rfl
set_option maxRecDepth 20000 in
theorem tm_6_127 : Cond.code yX12_readLine cX12_readLine 8 (Option.some Jvm.ClassFile.FieldType.boolean) ∈ GT := GT_6 127 rfl rfl
set_option maxRecDepth 20000 in
theorem tm_6_128 : Cond.methodLink "FormatDumpModel" 267 yX12_hexAt ∈ GT := GT_6 128 rfl rfl
set_option maxRecDepth 20000 in
theorem tm_6_130 : Cond.instanceMethod yX12_hexAt ∈ GT := GT_6 130 rfl rfl
set_option maxRecDepth 20000 in
theorem tm_6_131 : Cond.code yX12_hexAt cX12_hexAt 2 (Option.some Jvm.ClassFile.FieldType.int) ∈ GT := GT_6 131 rfl rfl
set_option maxRecDepth 20000 in
theorem tm_6_132 : Cond.methodLink "FormatDumpModel" 270 yX12_isNext ∈ GT := GT_6 132 rfl rfl
set_option maxRecDepth 20000 in
theorem tm_6_134 : Cond.instanceMethod yX12_isNext ∈ GT := GT_6 134 rfl rfl
set_option maxRecDepth 20000 in
theorem tm_6_135 : Cond.code yX12_isNext cX12_isNext 2 (Option.some Jvm.ClassFile.FieldType.boolean) ∈ GT := GT_6 135 rfl rfl
set_option maxRecDepth 20000 in
theorem tm_6_136 : Cond.methodLink "FormatDumpLaw" 120 yX12_patch ∈ GT := GT_6 136 rfl rfl
set_option maxRecDepth 20000 in
theorem tm_6_137 : Cond.instanceMethod yX12_patch ∈ GT := GT_6 137 rfl rfl
set_option maxRecDepth 20000 in
theorem tm_6_138 : Cond.selects "FormatDumpModel" yX12_patch yX12_patch ∈ GT := GT_6 138 rfl rfl
set_option maxRecDepth 20000 in
theorem tm_6_139 : Cond.code yX12_patch cX12_patch 4 (Option.some Jvm.ClassFile.FieldType.int) ∈ GT := GT_6 139 rfl rfl
set_option maxRecDepth 20000 in
theorem tm_6_140 : Cond.methodLink "FormatDumpLaw" 123 yX12_trim ∈ GT := GT_6 140 rfl rfl
set_option maxRecDepth 20000 in
theorem tm_6_141 : Cond.instanceMethod yX12_trim ∈ GT := GT_6 141 rfl rfl
set_option maxRecDepth 20000 in
theorem tm_6_142 : Cond.selects "FormatDumpModel" yX12_trim yX12_trim ∈ GT := GT_6 142 rfl rfl
set_option maxRecDepth 20000 in
theorem tm_6_143 : Cond.code yX12_trim cX12_trim 3 (Option.some Jvm.ClassFile.FieldType.int) ∈ GT := GT_6 143 rfl rfl
set_option maxRecDepth 20000 in
theorem tm_6_144 : Cond.methodLink "FormatDumpLaw" 127 yX12_place ∈ GT := GT_6 144 rfl rfl
set_option maxRecDepth 20000 in
theorem tm_6_145 : Cond.instanceMethod yX12_place ∈ GT := GT_6 145 rfl rfl
set_option maxRecDepth 20000 in
theorem tm_6_146 : Cond.selects "FormatDumpModel" yX12_place yX12_place ∈ GT := GT_6 146 rfl rfl
set_option maxRecDepth 20000 in
theorem tm_6_147 : Cond.code yX12_place cX12_place 1 (Option.some Jvm.ClassFile.FieldType.int) ∈ GT := GT_6 147 rfl rfl
set_option maxRecDepth 20000 in
theorem tm_6_148 : Cond.methodLink "FormatDumpLaw" 131 yX12_output ∈ GT := GT_6 148 rfl rfl
set_option maxRecDepth 20000 in
theorem tm_6_149 : Cond.instanceMethod yX12_output ∈ GT := GT_6 149 rfl rfl
set_option maxRecDepth 20000 in
theorem tm_6_150 : Cond.selects "FormatDumpModel" yX12_output yX12_output ∈ GT := GT_6 150 rfl rfl
set_option maxRecDepth 20000 in
theorem tm_6_151 : Cond.code yX12_output cX12_output 2 (Option.some Jvm.ClassFile.FieldType.int) ∈ GT := GT_6 151 rfl rfl
set_option maxRecDepth 20000 in
theorem tm_6_152 : Cond.methodLink "FormatDumpLaw" 135 yX12_data ∈ GT := GT_6 152 rfl rfl
set_option maxRecDepth 20000 in
theorem tm_6_153 : Cond.instanceMethod yX12_data ∈ GT := GT_6 153 rfl rfl
set_option maxRecDepth 20000 in
theorem tm_6_154 : Cond.selects "FormatDumpModel" yX12_data yX12_data ∈ GT := GT_6 154 rfl rfl
set_option maxRecDepth 20000 in
theorem tm_6_155 : Cond.code yX12_data cX12_data 2 (Option.some Jvm.ClassFile.FieldType.int) ∈ GT := GT_6 155 rfl rfl
set_option maxRecDepth 20000 in
theorem tm_6_156 : Cond.constantLong "FormatDumpLaw" 73 (4294967295) ∈ GT := GT_6 156 rfl rfl
set_option maxRecDepth 20000 in
theorem tp_0 : Cond.selects "FormatDump$Directive" yX2_forget yX2_forget ∈ GT := GT_s (List.mem_of_getElem? (i := 0) rfl) rfl
set_option maxRecDepth 20000 in
theorem tp_1 : Cond.selects "FormatDump$Printer" yX8_readPiece yX8_readPiece ∈ GT := GT_s (List.mem_of_getElem? (i := 1) rfl) rfl
set_option maxRecDepth 20000 in
theorem tp_2 : Cond.selects "FormatDump$Escape" yX3_readLetter yX3_readLetter ∈ GT := GT_s (List.mem_of_getElem? (i := 2) rfl) rfl
set_option maxRecDepth 20000 in
theorem tp_3 : Cond.selects "FormatDump$Escape" yX3_readOctal yX3_readOctal ∈ GT := GT_s (List.mem_of_getElem? (i := 3) rfl) rfl
set_option maxRecDepth 20000 in
theorem tp_4 : Cond.selects "FormatDump$Directive" yX2_readFlags yX2_readFlags ∈ GT := GT_s (List.mem_of_getElem? (i := 4) rfl) rfl
set_option maxRecDepth 20000 in
theorem tp_5 : Cond.selects "FormatDump$Directive" yX2_noteFlag yX2_noteFlag ∈ GT := GT_s (List.mem_of_getElem? (i := 5) rfl) rfl
set_option maxRecDepth 20000 in
theorem tp_6 : Cond.selects "FormatDump$Directive" yX2_readWidth yX2_readWidth ∈ GT := GT_s (List.mem_of_getElem? (i := 6) rfl) rfl
set_option maxRecDepth 20000 in
theorem tp_7 : Cond.selects "FormatDump$Directive" yX2_readTwoDigits yX2_readTwoDigits ∈ GT := GT_s (List.mem_of_getElem? (i := 7) rfl) rfl
set_option maxRecDepth 20000 in
theorem tp_8 : Cond.selects "FormatDump$Directive" yX2_readPrecision yX2_readPrecision ∈ GT := GT_s (List.mem_of_getElem? (i := 8) rfl) rfl
set_option maxRecDepth 20000 in
theorem tp_9 : Cond.selects "FormatDump$Directive" yX2_readLength yX2_readLength ∈ GT := GT_s (List.mem_of_getElem? (i := 9) rfl) rfl
set_option maxRecDepth 20000 in
theorem tp_10 : Cond.selects "FormatDump$Directive" yX2_isLetter yX2_isLetter ∈ GT := GT_s (List.mem_of_getElem? (i := 10) rfl) rfl
set_option maxRecDepth 20000 in
theorem tp_11 : Cond.selects "FormatDump$Printer" yX8_printDirective yX8_printDirective ∈ GT := GT_s (List.mem_of_getElem? (i := 11) rfl) rfl
set_option maxRecDepth 20000 in
theorem tp_12 : Cond.selects "FormatDump$NumberReading" yX5_readCharacter yX5_readCharacter ∈ GT := GT_s (List.mem_of_getElem? (i := 12) rfl) rfl
set_option maxRecDepth 20000 in
theorem tp_13 : Cond.selects "FormatDump$NumberReading" yX5_readDigits yX5_readDigits ∈ GT := GT_s (List.mem_of_getElem? (i := 13) rfl) rfl
set_option maxRecDepth 20000 in
theorem tp_14 : Cond.selects "FormatDump$Printer" yX8_loadCharacter yX8_loadCharacter ∈ GT := GT_s (List.mem_of_getElem? (i := 14) rfl) rfl
set_option maxRecDepth 20000 in
theorem tp_15 : Cond.selects "FormatDump$Printer" yX8_printFilled yX8_printFilled ∈ GT := GT_s (List.mem_of_getElem? (i := 15) rfl) rfl
set_option maxRecDepth 20000 in
theorem tp_16 : Cond.selects "FormatDump$Printer" yX8_loadText yX8_loadText ∈ GT := GT_s (List.mem_of_getElem? (i := 16) rfl) rfl
set_option maxRecDepth 20000 in
theorem tp_17 : Cond.selects "FormatDump$Printer" yX8_loadNumber yX8_loadNumber ∈ GT := GT_s (List.mem_of_getElem? (i := 17) rfl) rfl
set_option maxRecDepth 20000 in
theorem tp_18 : Cond.selects "FormatDump$Figures" yX4_characterOf yX4_characterOf ∈ GT := GT_s (List.mem_of_getElem? (i := 18) rfl) rfl
set_option maxRecDepth 20000 in
theorem tp_19 : Cond.selects "FormatDump$Printer" yX8_keepPrecision yX8_keepPrecision ∈ GT := GT_s (List.mem_of_getElem? (i := 19) rfl) rfl
set_option maxRecDepth 20000 in
theorem tp_20 : Cond.selects "FormatDump$Printer" yX8_unescapePiece yX8_unescapePiece ∈ GT := GT_s (List.mem_of_getElem? (i := 20) rfl) rfl
set_option maxRecDepth 20000 in
theorem tp_21 : Cond.selects "FormatDump$Printer" yX8_printNumber yX8_printNumber ∈ GT := GT_s (List.mem_of_getElem? (i := 21) rfl) rfl
set_option maxRecDepth 20000 in
theorem tp_22 : Cond.selects "FormatDump$Printer" yX8_narrowed yX8_narrowed ∈ GT := GT_s (List.mem_of_getElem? (i := 22) rfl) rfl
set_option maxRecDepth 20000 in
theorem tp_23 : Cond.selects "FormatDump$Printer" yX8_digitsDue yX8_digitsDue ∈ GT := GT_s (List.mem_of_getElem? (i := 23) rfl) rfl
set_option maxRecDepth 20000 in
theorem tp_24 : Cond.selects "FormatDump$Printer" yX8_signOf yX8_signOf ∈ GT := GT_s (List.mem_of_getElem? (i := 24) rfl) rfl
set_option maxRecDepth 20000 in
theorem tp_25 : Cond.selects "FormatDump" yX11_answerOfPage yX11_answerOfPage ∈ GT := GT_s (List.mem_of_getElem? (i := 25) rfl) rfl
set_option maxRecDepth 20000 in
theorem tp_26 : Cond.selects "java/lang/Throwable" (⟨"java/lang/Throwable", "fillInStackTrace", "(I)Ljava/lang/Throwable;"⟩ : MethodName) (⟨"java/lang/Throwable", "fillInStackTrace", "(I)Ljava/lang/Throwable;"⟩ : MethodName) ∈ GT := GT_s (List.mem_of_getElem? (i := 26) rfl) rfl
set_option maxRecDepth 20000 in
theorem tp_27 : Cond.selects "FormatDump" yX11_typeWord yX11_typeWord ∈ GT := GT_s (List.mem_of_getElem? (i := 27) rfl) rfl
set_option maxRecDepth 20000 in
theorem tp_28 : Cond.selects "FormatDump" yX11_feedWord yX11_feedWord ∈ GT := GT_s (List.mem_of_getElem? (i := 28) rfl) rfl
set_option maxRecDepth 20000 in
theorem tp_29 : Cond.selects "FormatDump$WordDump" yX10_isLikeBefore yX10_isLikeBefore ∈ GT := GT_s (List.mem_of_getElem? (i := 29) rfl) rfl
set_option maxRecDepth 20000 in
theorem tp_30 : Cond.selects "FormatDump$WordDump" yX10_writeLine yX10_writeLine ∈ GT := GT_s (List.mem_of_getElem? (i := 30) rfl) rfl
set_option maxRecDepth 20000 in
theorem tp_31 : Cond.selects "FormatDump$WordDump" yX10_writeAddress yX10_writeAddress ∈ GT := GT_s (List.mem_of_getElem? (i := 31) rfl) rfl
set_option maxRecDepth 20000 in
theorem tp_32 : Cond.selects "FormatDump$WordDump" yX10_wordAt yX10_wordAt ∈ GT := GT_s (List.mem_of_getElem? (i := 32) rfl) rfl
set_option maxRecDepth 20000 in
theorem tp_33 : Cond.selects "FormatDump$WordDump" yX10_writeField yX10_writeField ∈ GT := GT_s (List.mem_of_getElem? (i := 33) rfl) rfl
set_option maxRecDepth 20000 in
theorem tp_34 : Cond.selects "FormatDump$WordDump" yX10_loadCharacter yX10_loadCharacter ∈ GT := GT_s (List.mem_of_getElem? (i := 34) rfl) rfl
set_option maxRecDepth 20000 in
theorem tp_35 : Cond.selects "FormatDump$WordDump" yX10_loadNumber yX10_loadNumber ∈ GT := GT_s (List.mem_of_getElem? (i := 35) rfl) rfl
set_option maxRecDepth 20000 in
theorem tp_36 : Cond.selects "FormatDump$WordDump" yX10_fieldBase yX10_fieldBase ∈ GT := GT_s (List.mem_of_getElem? (i := 36) rfl) rfl
set_option maxRecDepth 20000 in
theorem tp_37 : Cond.selects "FormatDump$WordDump" yX10_leastDigits yX10_leastDigits ∈ GT := GT_s (List.mem_of_getElem? (i := 37) rfl) rfl
set_option maxRecDepth 20000 in
theorem tp_38 : Cond.selects "FormatDump$WordDump" yX10_fieldWidth yX10_fieldWidth ∈ GT := GT_s (List.mem_of_getElem? (i := 38) rfl) rfl
set_option maxRecDepth 20000 in
theorem tp_39 : Cond.selects "FormatDump$WordDump" yX10_decimalWidth yX10_decimalWidth ∈ GT := GT_s (List.mem_of_getElem? (i := 39) rfl) rfl
set_option maxRecDepth 20000 in
theorem tp_40 : Cond.selects "FormatDump$PairDump" yX6_writeDigits yX6_writeDigits ∈ GT := GT_s (List.mem_of_getElem? (i := 40) rfl) rfl
set_option maxRecDepth 20000 in
theorem tp_41 : Cond.selects "FormatDump$PairReader" yX7_readLine yX7_readLine ∈ GT := GT_s (List.mem_of_getElem? (i := 41) rfl) rfl
set_option maxRecDepth 20000 in
theorem tp_42 : Cond.selects "FormatDump$PairReader" yX7_readAddress yX7_readAddress ∈ GT := GT_s (List.mem_of_getElem? (i := 42) rfl) rfl
set_option maxRecDepth 20000 in
theorem tp_43 : Cond.selects "FormatDump$PairReader" yX7_readOne yX7_readOne ∈ GT := GT_s (List.mem_of_getElem? (i := 43) rfl) rfl
set_option maxRecDepth 20000 in
theorem tp_44 : Cond.selects "FormatDump$PairReader" yX7_readPairs yX7_readPairs ∈ GT := GT_s (List.mem_of_getElem? (i := 44) rfl) rfl
set_option maxRecDepth 20000 in
theorem tp_45 : Cond.selects "FormatDump$PairReader" yX7_readPair yX7_readPair ∈ GT := GT_s (List.mem_of_getElem? (i := 45) rfl) rfl
set_option maxRecDepth 20000 in
theorem tp_46 : Cond.selects "FormatDump$PairReader" yX7_readBlanks yX7_readBlanks ∈ GT := GT_s (List.mem_of_getElem? (i := 46) rfl) rfl
set_option maxRecDepth 20000 in
theorem tp_47 : Cond.selects "FormatDump$PairReader" yX7_readSeen yX7_readSeen ∈ GT := GT_s (List.mem_of_getElem? (i := 47) rfl) rfl
set_option maxRecDepth 20000 in
theorem tp_48 : Cond.selects "FormatDumpModel" yX12_typed yX12_typed ∈ GT := GT_s (List.mem_of_getElem? (i := 48) rfl) rfl
set_option maxRecDepth 20000 in
theorem tp_49 : Cond.selects "FormatDumpModel" yX12_refused yX12_refused ∈ GT := GT_s (List.mem_of_getElem? (i := 49) rfl) rfl
set_option maxRecDepth 20000 in
theorem tp_50 : Cond.selects "FormatDumpModel" yX12_badAt yX12_badAt ∈ GT := GT_s (List.mem_of_getElem? (i := 50) rfl) rfl
set_option maxRecDepth 20000 in
theorem tp_51 : Cond.selects "FormatDumpModel" yX12_readEscape yX12_readEscape ∈ GT := GT_s (List.mem_of_getElem? (i := 51) rfl) rfl
set_option maxRecDepth 20000 in
theorem tp_52 : Cond.selects "FormatDumpModel" yX12_charAt yX12_charAt ∈ GT := GT_s (List.mem_of_getElem? (i := 52) rfl) rfl
set_option maxRecDepth 20000 in
theorem tp_53 : Cond.selects "FormatDumpModel" yX12_readDirective yX12_readDirective ∈ GT := GT_s (List.mem_of_getElem? (i := 53) rfl) rfl
set_option maxRecDepth 20000 in
theorem tp_54 : Cond.selects "FormatDumpModel" yX12_readTwo yX12_readTwo ∈ GT := GT_s (List.mem_of_getElem? (i := 54) rfl) rfl
set_option maxRecDepth 20000 in
theorem tp_55 : Cond.selects "FormatDumpModel" yX12_begin yX12_begin ∈ GT := GT_s (List.mem_of_getElem? (i := 55) rfl) rfl
set_option maxRecDepth 20000 in
theorem tp_56 : Cond.selects "FormatDumpModel" yX12_printOnce yX12_printOnce ∈ GT := GT_s (List.mem_of_getElem? (i := 56) rfl) rfl
set_option maxRecDepth 20000 in
theorem tp_57 : Cond.selects "FormatDumpModel" yX12_put yX12_put ∈ GT := GT_s (List.mem_of_getElem? (i := 57) rfl) rfl
set_option maxRecDepth 20000 in
theorem tp_58 : Cond.selects "FormatDumpModel" yX12_printDirective yX12_printDirective ∈ GT := GT_s (List.mem_of_getElem? (i := 58) rfl) rfl
set_option maxRecDepth 20000 in
theorem tp_59 : Cond.selects "FormatDumpModel" yX12_takeNumber yX12_takeNumber ∈ GT := GT_s (List.mem_of_getElem? (i := 59) rfl) rfl
set_option maxRecDepth 20000 in
theorem tp_60 : Cond.selects "FormatDumpModel" yX12_textNumber yX12_textNumber ∈ GT := GT_s (List.mem_of_getElem? (i := 60) rfl) rfl
set_option maxRecDepth 20000 in
theorem tp_61 : Cond.selects "FormatDumpModel" yX12_textAt yX12_textAt ∈ GT := GT_s (List.mem_of_getElem? (i := 61) rfl) rfl
set_option maxRecDepth 20000 in
theorem tp_62 : Cond.selects "FormatDumpModel" yX12_takeText yX12_takeText ∈ GT := GT_s (List.mem_of_getElem? (i := 62) rfl) rfl
set_option maxRecDepth 20000 in
theorem tp_63 : Cond.selects "FormatDumpModel" yX12_reckon yX12_reckon ∈ GT := GT_s (List.mem_of_getElem? (i := 63) rfl) rfl
set_option maxRecDepth 20000 in
theorem tp_64 : Cond.selects "FormatDumpModel" yX12_fill yX12_fill ∈ GT := GT_s (List.mem_of_getElem? (i := 64) rfl) rfl
set_option maxRecDepth 20000 in
theorem tp_65 : Cond.selects "FormatDumpModel" yX12_noArgument yX12_noArgument ∈ GT := GT_s (List.mem_of_getElem? (i := 65) rfl) rfl
set_option maxRecDepth 20000 in
theorem tp_66 : Cond.selects "FormatDumpModel" yX12_printRow yX12_printRow ∈ GT := GT_s (List.mem_of_getElem? (i := 66) rfl) rfl
set_option maxRecDepth 20000 in
theorem tp_67 : Cond.selects "FormatDumpModel" yX12_putMany yX12_putMany ∈ GT := GT_s (List.mem_of_getElem? (i := 67) rfl) rfl
set_option maxRecDepth 20000 in
theorem tp_68 : Cond.selects "FormatDumpModel" yX12_undo yX12_undo ∈ GT := GT_s (List.mem_of_getElem? (i := 68) rfl) rfl
set_option maxRecDepth 20000 in
theorem tp_69 : Cond.selects "FormatDumpModel" yX12_printWhole yX12_printWhole ∈ GT := GT_s (List.mem_of_getElem? (i := 69) rfl) rfl
set_option maxRecDepth 20000 in
theorem tp_70 : Cond.selects "FormatDumpModel" yX12_putDigits yX12_putDigits ∈ GT := GT_s (List.mem_of_getElem? (i := 70) rfl) rfl
set_option maxRecDepth 20000 in
theorem tp_71 : Cond.selects "FormatDumpModel" yX12_end yX12_end ∈ GT := GT_s (List.mem_of_getElem? (i := 71) rfl) rfl
set_option maxRecDepth 20000 in
theorem tp_72 : Cond.selects "FormatDumpModel" yX12_isLikeBefore yX12_isLikeBefore ∈ GT := GT_s (List.mem_of_getElem? (i := 72) rfl) rfl
set_option maxRecDepth 20000 in
theorem tp_73 : Cond.selects "FormatDumpModel" yX12_putAddress yX12_putAddress ∈ GT := GT_s (List.mem_of_getElem? (i := 73) rfl) rfl
set_option maxRecDepth 20000 in
theorem tp_74 : Cond.selects "FormatDumpModel" yX12_putField yX12_putField ∈ GT := GT_s (List.mem_of_getElem? (i := 74) rfl) rfl
set_option maxRecDepth 20000 in
theorem tp_75 : Cond.selects "FormatDumpModel" yX12_putShown yX12_putShown ∈ GT := GT_s (List.mem_of_getElem? (i := 75) rfl) rfl
set_option maxRecDepth 20000 in
theorem tp_76 : Cond.selects "FormatDumpModel" yX12_readLine yX12_readLine ∈ GT := GT_s (List.mem_of_getElem? (i := 76) rfl) rfl
set_option maxRecDepth 20000 in
theorem tp_77 : Cond.selects "FormatDumpModel" yX12_hexAt yX12_hexAt ∈ GT := GT_s (List.mem_of_getElem? (i := 77) rfl) rfl
set_option maxRecDepth 20000 in
theorem tp_78 : Cond.selects "FormatDumpModel" yX12_isNext yX12_isNext ∈ GT := GT_s (List.mem_of_getElem? (i := 78) rfl) rfl
theorem inG_X0 : ∀ w ∈ wsX00, w ∈ tables_1 ∧ goodWord w = true := by decide +kernel
theorem inW_X0 {y : MethodName} {c : ByteArray} {mx : Nat} {rt : Option FieldType} : ∀ w ∈ wsX00, w ∈ gW y c mx rt := fun w h => gW_of (GT_t (inG_X0 w h).1 (inG_X0 w h).2)
theorem inG_X1 : ∀ w ∈ wsX10, w ∈ tables_1 ∧ goodWord w = true := by decide +kernel
theorem inW_X1 {y : MethodName} {c : ByteArray} {mx : Nat} {rt : Option FieldType} : ∀ w ∈ wsX10, w ∈ gW y c mx rt := fun w h => gW_of (GT_t (inG_X1 w h).1 (inG_X1 w h).2)
theorem inG_X2 : ∀ w ∈ wsX20, w ∈ tables_1 ∧ goodWord w = true := by decide +kernel
theorem inW_X2 {y : MethodName} {c : ByteArray} {mx : Nat} {rt : Option FieldType} : ∀ w ∈ wsX20, w ∈ gW y c mx rt := fun w h => gW_of (GT_t (inG_X2 w h).1 (inG_X2 w h).2)
theorem inG_X3 : ∀ w ∈ wsX30, w ∈ tables_1 ∧ goodWord w = true := by decide +kernel
theorem inW_X3 {y : MethodName} {c : ByteArray} {mx : Nat} {rt : Option FieldType} : ∀ w ∈ wsX30, w ∈ gW y c mx rt := fun w h => gW_of (GT_t (inG_X3 w h).1 (inG_X3 w h).2)
theorem inG_X4 : ∀ w ∈ wsX40, w ∈ tables_1 ∧ goodWord w = true := by decide +kernel
theorem inW_X4 {y : MethodName} {c : ByteArray} {mx : Nat} {rt : Option FieldType} : ∀ w ∈ wsX40, w ∈ gW y c mx rt := fun w h => gW_of (GT_t (inG_X4 w h).1 (inG_X4 w h).2)
theorem inG_X5 : ∀ w ∈ wsX50, w ∈ tables_1 ∧ goodWord w = true := by decide +kernel
theorem inW_X5 {y : MethodName} {c : ByteArray} {mx : Nat} {rt : Option FieldType} : ∀ w ∈ wsX50, w ∈ gW y c mx rt := fun w h => gW_of (GT_t (inG_X5 w h).1 (inG_X5 w h).2)
theorem inG_X6 : ∀ w ∈ wsX60, w ∈ tables_1 ∧ goodWord w = true := by decide +kernel
theorem inW_X6 {y : MethodName} {c : ByteArray} {mx : Nat} {rt : Option FieldType} : ∀ w ∈ wsX60, w ∈ gW y c mx rt := fun w h => gW_of (GT_t (inG_X6 w h).1 (inG_X6 w h).2)
theorem inG_X7 : ∀ w ∈ wsX70, w ∈ tables_1 ∧ goodWord w = true := by decide +kernel
theorem inW_X7 {y : MethodName} {c : ByteArray} {mx : Nat} {rt : Option FieldType} : ∀ w ∈ wsX70, w ∈ gW y c mx rt := fun w h => gW_of (GT_t (inG_X7 w h).1 (inG_X7 w h).2)
theorem inG_X8 : ∀ w ∈ wsX80, w ∈ tables_1 ∧ goodWord w = true := by decide +kernel
theorem inW_X8 {y : MethodName} {c : ByteArray} {mx : Nat} {rt : Option FieldType} : ∀ w ∈ wsX80, w ∈ gW y c mx rt := fun w h => gW_of (GT_t (inG_X8 w h).1 (inG_X8 w h).2)
theorem inG_X9 : ∀ w ∈ wsX90, w ∈ tables_1 ∧ goodWord w = true := by decide +kernel
theorem inW_X9 {y : MethodName} {c : ByteArray} {mx : Nat} {rt : Option FieldType} : ∀ w ∈ wsX90, w ∈ gW y c mx rt := fun w h => gW_of (GT_t (inG_X9 w h).1 (inG_X9 w h).2)
theorem inG_X10 : ∀ w ∈ wsX100, w ∈ tables_1 ∧ goodWord w = true := by decide +kernel
theorem inW_X10 {y : MethodName} {c : ByteArray} {mx : Nat} {rt : Option FieldType} : ∀ w ∈ wsX100, w ∈ gW y c mx rt := fun w h => gW_of (GT_t (inG_X10 w h).1 (inG_X10 w h).2)
theorem inG_X11 : ∀ w ∈ wsX110, w ∈ tables_1 ∧ goodWord w = true := by decide +kernel
theorem inW_X11 {y : MethodName} {c : ByteArray} {mx : Nat} {rt : Option FieldType} : ∀ w ∈ wsX110, w ∈ gW y c mx rt := fun w h => gW_of (GT_t (inG_X11 w h).1 (inG_X11 w h).2)
theorem inG_X12 : ∀ w ∈ wsX120, w ∈ tables_1 ∧ goodWord w = true := by decide +kernel
theorem inW_X12 {y : MethodName} {c : ByteArray} {mx : Nat} {rt : Option FieldType} : ∀ w ∈ wsX120, w ∈ gW y c mx rt := fun w h => gW_of (GT_t (inG_X12 w h).1 (inG_X12 w h).2)
end
section
theorem dX9_init_0 : decode cX9_init 0 = .ok (.aload_n 0, 1) := by decide +kernel
theorem dX9_init_1 : decode cX9_init 1 = .ok (.invokespecial 3, 3) := by decide +kernel
theorem dX9_init_4 : decode cX9_init 4 = .ok (.aload_n 0, 1) := by decide +kernel
theorem dX9_init_5 : decode cX9_init 5 = .ok (.iload_n 1, 1) := by decide +kernel
theorem dX9_init_6 : decode cX9_init 6 = .ok (.newarray .int, 2) := by decide +kernel
theorem dX9_init_8 : decode cX9_init 8 = .ok (.putfield 9, 3) := by decide +kernel
theorem dX9_init_11 : decode cX9_init 11 = .ok (.aload_n 0, 1) := by decide +kernel
theorem dX9_init_12 : decode cX9_init 12 = .ok (.iload_n 1, 1) := by decide +kernel
theorem dX9_init_13 : decode cX9_init 13 = .ok (.putfield 15, 3) := by decide +kernel
theorem dX9_init_16 : decode cX9_init 16 = .ok (.aload_n 0, 1) := by decide +kernel
theorem dX9_init_17 : decode cX9_init 17 = .ok (.iconst 0, 1) := by decide +kernel
theorem dX9_init_18 : decode cX9_init 18 = .ok (.putfield 19, 3) := by decide +kernel
theorem dX9_init_21 : decode cX9_init 21 = .ok (.aload_n 0, 1) := by decide +kernel
theorem dX9_init_22 : decode cX9_init 22 = .ok (.iconst 0, 1) := by decide +kernel
theorem dX9_init_23 : decode cX9_init 23 = .ok (.putfield 22, 3) := by decide +kernel
theorem dX9_init_26 : decode cX9_init 26 = .ok (.return_, 1) := by decide +kernel
theorem dX9_size_0 : decode cX9_size 0 = .ok (.aload_n 0, 1) := by decide +kernel
theorem dX9_size_1 : decode cX9_size 1 = .ok (.getfield 19, 3) := by decide +kernel
theorem dX9_size_4 : decode cX9_size 4 = .ok (.ireturn, 1) := by decide +kernel
theorem dX9_isOver_0 : decode cX9_isOver 0 = .ok (.aload_n 0, 1) := by decide +kernel
theorem dX9_isOver_1 : decode cX9_isOver 1 = .ok (.getfield 22, 3) := by decide +kernel
theorem dX9_isOver_4 : decode cX9_isOver 4 = .ok (.ireturn, 1) := by decide +kernel
theorem dX9_clear_0 : decode cX9_clear 0 = .ok (.aload_n 0, 1) := by decide +kernel
theorem dX9_clear_1 : decode cX9_clear 1 = .ok (.iconst 0, 1) := by decide +kernel
theorem dX9_clear_2 : decode cX9_clear 2 = .ok (.putfield 19, 3) := by decide +kernel
theorem dX9_clear_5 : decode cX9_clear 5 = .ok (.aload_n 0, 1) := by decide +kernel
theorem dX9_clear_6 : decode cX9_clear 6 = .ok (.iconst 0, 1) := by decide +kernel
theorem dX9_clear_7 : decode cX9_clear 7 = .ok (.putfield 22, 3) := by decide +kernel
theorem dX9_clear_10 : decode cX9_clear 10 = .ok (.return_, 1) := by decide +kernel
theorem dX9_limitTo_0 : decode cX9_limitTo 0 = .ok (.aload_n 0, 1) := by decide +kernel
theorem dX9_limitTo_1 : decode cX9_limitTo 1 = .ok (.iconst 0, 1) := by decide +kernel
theorem dX9_limitTo_2 : decode cX9_limitTo 2 = .ok (.iload_n 1, 1) := by decide +kernel
theorem dX9_limitTo_3 : decode cX9_limitTo 3 = .ok (.aload_n 0, 1) := by decide +kernel
theorem dX9_limitTo_4 : decode cX9_limitTo 4 = .ok (.getfield 9, 3) := by decide +kernel
theorem dX9_limitTo_7 : decode cX9_limitTo 7 = .ok (.arraylength, 1) := by decide +kernel
theorem dX9_limitTo_8 : decode cX9_limitTo 8 = .ok (.invokestatic 26, 3) := by decide +kernel
theorem dX9_limitTo_11 : decode cX9_limitTo 11 = .ok (.invokestatic 32, 3) := by decide +kernel
theorem dX9_limitTo_14 : decode cX9_limitTo 14 = .ok (.putfield 15, 3) := by decide +kernel
theorem dX9_limitTo_17 : decode cX9_limitTo 17 = .ok (.return_, 1) := by decide +kernel
theorem dX9_add_0 : decode cX9_add 0 = .ok (.aload_n 0, 1) := by decide +kernel
theorem dX9_add_1 : decode cX9_add 1 = .ok (.getfield 19, 3) := by decide +kernel
theorem dX9_add_4 : decode cX9_add 4 = .ok (.aload_n 0, 1) := by decide +kernel
theorem dX9_add_5 : decode cX9_add 5 = .ok (.getfield 15, 3) := by decide +kernel
theorem dX9_add_8 : decode cX9_add 8 = .ok (.if_icmp .ge 30, 3) := by decide +kernel
theorem dX9_add_11 : decode cX9_add 11 = .ok (.aload_n 0, 1) := by decide +kernel
theorem dX9_add_12 : decode cX9_add 12 = .ok (.getfield 9, 3) := by decide +kernel
theorem dX9_add_15 : decode cX9_add 15 = .ok (.aload_n 0, 1) := by decide +kernel
theorem dX9_add_16 : decode cX9_add 16 = .ok (.getfield 19, 3) := by decide +kernel
theorem dX9_add_19 : decode cX9_add 19 = .ok (.iload_n 1, 1) := by decide +kernel
theorem dX9_add_20 : decode cX9_add 20 = .ok (.sipush 255, 3) := by decide +kernel
theorem dX9_add_23 : decode cX9_add 23 = .ok (.iand, 1) := by decide +kernel
theorem dX9_add_24 : decode cX9_add 24 = .ok (.iastore, 1) := by decide +kernel
theorem dX9_add_25 : decode cX9_add 25 = .ok (.aload_n 0, 1) := by decide +kernel
theorem dX9_add_26 : decode cX9_add 26 = .ok (.dup, 1) := by decide +kernel
theorem dX9_add_27 : decode cX9_add 27 = .ok (.getfield 19, 3) := by decide +kernel
theorem dX9_add_30 : decode cX9_add 30 = .ok (.iconst 1, 1) := by decide +kernel
theorem dX9_add_31 : decode cX9_add 31 = .ok (.iadd, 1) := by decide +kernel
theorem dX9_add_32 : decode cX9_add 32 = .ok (.putfield 19, 3) := by decide +kernel
theorem dX9_add_35 : decode cX9_add 35 = .ok (.goto 8, 3) := by decide +kernel
theorem dX9_add_38 : decode cX9_add 38 = .ok (.aload_n 0, 1) := by decide +kernel
theorem dX9_add_39 : decode cX9_add 39 = .ok (.iconst 1, 1) := by decide +kernel
theorem dX9_add_40 : decode cX9_add 40 = .ok (.putfield 22, 3) := by decide +kernel
theorem dX9_add_43 : decode cX9_add 43 = .ok (.return_, 1) := by decide +kernel
theorem dX9_addMany_0 : decode cX9_addMany 0 = .ok (.iconst 0, 1) := by decide +kernel
theorem dX9_addMany_1 : decode cX9_addMany 1 = .ok (.istore_n 3, 1) := by decide +kernel
theorem dX9_addMany_2 : decode cX9_addMany 2 = .ok (.iload_n 3, 1) := by decide +kernel
theorem dX9_addMany_3 : decode cX9_addMany 3 = .ok (.iload_n 2, 1) := by decide +kernel
theorem dX9_addMany_4 : decode cX9_addMany 4 = .ok (.if_icmp .ge 14, 3) := by decide +kernel
theorem dX9_addMany_7 : decode cX9_addMany 7 = .ok (.aload_n 0, 1) := by decide +kernel
theorem dX9_addMany_8 : decode cX9_addMany 8 = .ok (.iload_n 1, 1) := by decide +kernel
theorem dX9_addMany_9 : decode cX9_addMany 9 = .ok (.invokevirtual 35, 3) := by decide +kernel
theorem dX9_addMany_12 : decode cX9_addMany 12 = .ok (.iinc 3 1, 3) := by decide +kernel
theorem dX9_addMany_15 : decode cX9_addMany 15 = .ok (.goto (-13), 3) := by decide +kernel
theorem dX9_addMany_18 : decode cX9_addMany 18 = .ok (.return_, 1) := by decide +kernel
theorem dX9_at_0 : decode cX9_at 0 = .ok (.iload_n 1, 1) := by decide +kernel
theorem dX9_at_1 : decode cX9_at 1 = .ok (.ifCond .lt 20, 3) := by decide +kernel
theorem dX9_at_4 : decode cX9_at 4 = .ok (.iload_n 1, 1) := by decide +kernel
theorem dX9_at_5 : decode cX9_at 5 = .ok (.aload_n 0, 1) := by decide +kernel
theorem dX9_at_6 : decode cX9_at 6 = .ok (.getfield 19, 3) := by decide +kernel
theorem dX9_at_9 : decode cX9_at 9 = .ok (.if_icmp .ge 12, 3) := by decide +kernel
theorem dX9_at_12 : decode cX9_at 12 = .ok (.aload_n 0, 1) := by decide +kernel
theorem dX9_at_13 : decode cX9_at 13 = .ok (.getfield 9, 3) := by decide +kernel
theorem dX9_at_16 : decode cX9_at 16 = .ok (.iload_n 1, 1) := by decide +kernel
theorem dX9_at_17 : decode cX9_at 17 = .ok (.iaload, 1) := by decide +kernel
theorem dX9_at_18 : decode cX9_at 18 = .ok (.goto 4, 3) := by decide +kernel
theorem dX9_at_21 : decode cX9_at 21 = .ok (.iconst (-1), 1) := by decide +kernel
theorem dX9_at_22 : decode cX9_at 22 = .ok (.ireturn, 1) := by decide +kernel
theorem dX9_change_0 : decode cX9_change 0 = .ok (.iload_n 1, 1) := by decide +kernel
theorem dX9_change_1 : decode cX9_change 1 = .ok (.ifCond .lt 22, 3) := by decide +kernel
theorem dX9_change_4 : decode cX9_change 4 = .ok (.iload_n 1, 1) := by decide +kernel
theorem dX9_change_5 : decode cX9_change 5 = .ok (.aload_n 0, 1) := by decide +kernel
theorem dX9_change_6 : decode cX9_change 6 = .ok (.getfield 19, 3) := by decide +kernel
theorem dX9_change_9 : decode cX9_change 9 = .ok (.if_icmp .ge 14, 3) := by decide +kernel
theorem dX9_change_12 : decode cX9_change 12 = .ok (.aload_n 0, 1) := by decide +kernel
theorem dX9_change_13 : decode cX9_change 13 = .ok (.getfield 9, 3) := by decide +kernel
theorem dX9_change_16 : decode cX9_change 16 = .ok (.iload_n 1, 1) := by decide +kernel
theorem dX9_change_17 : decode cX9_change 17 = .ok (.iload_n 2, 1) := by decide +kernel
theorem dX9_change_18 : decode cX9_change 18 = .ok (.sipush 255, 3) := by decide +kernel
theorem dX9_change_21 : decode cX9_change 21 = .ok (.iand, 1) := by decide +kernel
theorem dX9_change_22 : decode cX9_change 22 = .ok (.iastore, 1) := by decide +kernel
theorem dX9_change_23 : decode cX9_change 23 = .ok (.return_, 1) := by decide +kernel
theorem dX9_keepFirst_0 : decode cX9_keepFirst 0 = .ok (.iconst 0, 1) := by decide +kernel
theorem dX9_keepFirst_1 : decode cX9_keepFirst 1 = .ok (.iload_n 1, 1) := by decide +kernel
theorem dX9_keepFirst_2 : decode cX9_keepFirst 2 = .ok (.aload_n 0, 1) := by decide +kernel
theorem dX9_keepFirst_3 : decode cX9_keepFirst 3 = .ok (.getfield 19, 3) := by decide +kernel
theorem dX9_keepFirst_6 : decode cX9_keepFirst 6 = .ok (.invokestatic 26, 3) := by decide +kernel
theorem dX9_keepFirst_9 : decode cX9_keepFirst 9 = .ok (.invokestatic 32, 3) := by decide +kernel
theorem dX9_keepFirst_12 : decode cX9_keepFirst 12 = .ok (.istore_n 2, 1) := by decide +kernel
theorem dX9_keepFirst_13 : decode cX9_keepFirst 13 = .ok (.aload_n 0, 1) := by decide +kernel
theorem dX9_keepFirst_14 : decode cX9_keepFirst 14 = .ok (.getfield 19, 3) := by decide +kernel
theorem dX9_keepFirst_17 : decode cX9_keepFirst 17 = .ok (.iload_n 2, 1) := by decide +kernel
theorem dX9_keepFirst_18 : decode cX9_keepFirst 18 = .ok (.isub, 1) := by decide +kernel
theorem dX9_keepFirst_19 : decode cX9_keepFirst 19 = .ok (.istore_n 3, 1) := by decide +kernel
theorem dX9_keepFirst_20 : decode cX9_keepFirst 20 = .ok (.aload_n 0, 1) := by decide +kernel
theorem dX9_keepFirst_21 : decode cX9_keepFirst 21 = .ok (.iload_n 2, 1) := by decide +kernel
theorem dX9_keepFirst_22 : decode cX9_keepFirst 22 = .ok (.putfield 19, 3) := by decide +kernel
theorem dX9_keepFirst_25 : decode cX9_keepFirst 25 = .ok (.iload_n 3, 1) := by decide +kernel
theorem dX9_keepFirst_26 : decode cX9_keepFirst 26 = .ok (.ireturn, 1) := by decide +kernel
theorem dX9_copyOf_0 : decode cX9_copyOf 0 = .ok (.aload_n 0, 1) := by decide +kernel
theorem dX9_copyOf_1 : decode cX9_copyOf 1 = .ok (.invokevirtual 39, 3) := by decide +kernel
theorem dX9_copyOf_4 : decode cX9_copyOf 4 = .ok (.iconst 0, 1) := by decide +kernel
theorem dX9_copyOf_5 : decode cX9_copyOf 5 = .ok (.istore_n 2, 1) := by decide +kernel
theorem dX9_copyOf_6 : decode cX9_copyOf 6 = .ok (.iload_n 2, 1) := by decide +kernel
theorem dX9_copyOf_7 : decode cX9_copyOf 7 = .ok (.aload_n 1, 1) := by decide +kernel
theorem dX9_copyOf_8 : decode cX9_copyOf 8 = .ok (.invokevirtual 42, 3) := by decide +kernel
theorem dX9_copyOf_11 : decode cX9_copyOf 11 = .ok (.if_icmp .ge 18, 3) := by decide +kernel
theorem dX9_copyOf_14 : decode cX9_copyOf 14 = .ok (.aload_n 0, 1) := by decide +kernel
theorem dX9_copyOf_15 : decode cX9_copyOf 15 = .ok (.aload_n 1, 1) := by decide +kernel
theorem dX9_copyOf_16 : decode cX9_copyOf 16 = .ok (.iload_n 2, 1) := by decide +kernel
theorem dX9_copyOf_17 : decode cX9_copyOf 17 = .ok (.invokevirtual 45, 3) := by decide +kernel
theorem dX9_copyOf_20 : decode cX9_copyOf 20 = .ok (.invokevirtual 35, 3) := by decide +kernel
theorem dX9_copyOf_23 : decode cX9_copyOf 23 = .ok (.iinc 2 1, 3) := by decide +kernel
theorem dX9_copyOf_26 : decode cX9_copyOf 26 = .ok (.goto (-20), 3) := by decide +kernel
theorem dX9_copyOf_29 : decode cX9_copyOf 29 = .ok (.return_, 1) := by decide +kernel
end
section
/-- a boolean as the machine has it -/
def bI (b : Bool) : Int32 := if b then 1 else 0
/-- the cells: object number k lies at ad k and holds M k -/
def mm_l (ad : Nat → Nat) (n : Nat) (M : Nat → va_E) : va_W := (List.range n).map (fun k => (ad k, M k))
theorem mm_at {ad : Nat → Nat} {n : Nat} {M : Nat → va_E} {k : Nat} (hk : k < n) : (mm_l ad n M)[k]? = some (ad k, M k) := by
  simp [mm_l, List.getElem?_map, List.getElem?_range hk]
theorem mm_set {ad : Nat → Nat} {n : Nat} {M : Nat → va_E} {k : Nat} {e : va_E} : (mm_l ad n M).set k (ad k, e) = mm_l ad n (va_up M k e) := by
  apply List.ext_getElem?
  intro j
  by_cases hj : j < n
  · by_cases hk : k = j
    · subst hk
      rw [List.getElem?_set_self (by simp [mm_l]; exact hj), mm_at hj, va_up_self]
    · rw [List.getElem?_set_ne hk, mm_at hj, mm_at hj, va_up_ne _ _ (fun h => hk h.symm)]
  · rw [List.getElem?_eq_none (by simp [mm_l]; omega), List.getElem?_eq_none (by simp [mm_l]; omega)]
theorem mm_len {ad : Nat → Nat} {n : Nat} {M : Nat → va_E} {k : Nat} {q : Nat × va_E} (h : (mm_l ad n M)[k]? = some q) : k < n ∧ q = (ad k, M k) := by
  have h1 : k < (mm_l ad n M).length := (List.getElem?_eq_some_iff.mp h).1
  have h2 : k < n := by simpa [mm_l] using h1
  rw [mm_at h2] at h
  exact ⟨h2, (Option.some.inj h).symm⟩
theorem mm_push {ad : Nat → Nat} {n : Nat} {M : Nat → va_E} {q : Nat} {e : va_E} : mm_l ad n M ++ [(q, e)] = mm_l (va_up ad n q) (n + 1) (va_up M n e) := by
  simp only [mm_l, List.range_succ, List.map_append, List.map_cons, List.map_nil, va_up_self]
  congr 1
  apply List.map_congr_left
  intro k hk
  have : k ≠ n := by have := List.mem_range.mp hk; omega
  rw [va_up_ne _ _ this, va_up_ne _ _ this]
def mm (D : va_G) (ad : Nat → Nat) (n : Nat) (M : Nat → va_E) (H : Heap) : Prop := va_P D vwCl (mm_l ad n M) H
def mI (ad : Nat → Nat) (n : Nat) (A : Nat → Prop) : Prop := (∀ i j, i < n → j < n → ad i = ad j → i = j) ∧ ∀ k, k < n → A (ad k)
theorem mI.D {ad : Nat → Nat} {n : Nat} {A : Nat → Prop} {M : Nat → va_E} (h : mI ad n A) : va_D A (mm_l ad n M) := by
  refine ⟨fun i j x y hx hy hxy => ?_, fun k q hk => ?_⟩
  · obtain ⟨h1, rfl⟩ := mm_len hx
    obtain ⟨h2, rfl⟩ := mm_len hy
    exact h.1 i j h1 h2 hxy
  · obtain ⟨h1, rfl⟩ := mm_len hk
    exact h.2 k h1
theorem mI.of {ad : Nat → Nat} {n : Nat} {A : Nat → Prop} {M : Nat → va_E} (h : va_D A (mm_l ad n M)) : mI ad n A :=
  ⟨fun i j hi hj e => h.1 i j _ _ (mm_at hi) (mm_at hj) e, fun k hk => h.2 k _ (mm_at hk)⟩
/-- the array classes: char, int, long, boolean, Argument -/
abbrev tyL (cy : Nat → ClassId) : List (ClassId × FieldType) := [(cy 0, .char), (cy 1, .int), (cy 2, .long), (cy 3, .boolean), (cy 4, .object "FormatDump$Argument")]
/-- the nest mates' private static methods that are called from other classes of the nest -/
abbrev nestL : List (String × Nat × MethodName) := [(RX3, 35, yX11_digitOf), (RX2, 107, yX11_digitOf), (RX5, 41, yX11_digitOf), (RX10, 114, yX11_canBeSeen), (RX6, 22, yX11_pairsWidth), (RX6, 52, yX11_endsGroup), (RX6, 60, yX11_seenAs), (RX7, 33, yX11_pairsWidth), (RX7, 69, yX11_digitOf), (RX7, 75, yX11_endsGroup), (RX7, 81, yX11_seenAs)]
def mK (D : va_G) (cy : Nat → ClassId) (s : State) : Prop := va_K D vwCl (tyL cy) s ∧ ∀ q ∈ nestL, va_Nw (.methodLinkNest q.1 q.2.1 q.2.2 "FormatDump") s
theorem mK.warm {D : va_G} {cy : Nat → ClassId} {s U : State} (h : mK D cy s) (hW : s.WarmedH U.vm) : mK D cy U := ⟨va_K.moved hW.alike h.1, fun q hq => va_Nw.warmM hW (h.2 q hq)⟩
/-- what a walk has in hand all the way -/
def mC (p : Program) (s : State) (m : MethodId) (args : Array Value) (c : Code) (cc : ByteArray) (nL : Nat) (own : String) (Ts : List Cond) (D : va_G) (cy : Nat → ClassId) (ad : Nat → Nat) (n : Nat) (A : Nat → Prop) : Prop :=
  CallFix p m c cc nL s args Ts own ∧ mK D cy s ∧ mI ad n A ∧ ∀ q, s.heap.size ≤ q → A q
/-- the machine at pc, locals lv, stack st, memory M, comes to Q -/
def mW (p : Program) (l : Launch) (e : Env) (R : Room) (s : State) (m : MethodId) (args : Array Value) (below : List Frame) (meth : Method) (c : Code) (D : va_G) (A : Nat → Prop) (nL : Nat) (cells slots : Nat) (Q : State → Prop) (ad : Nat → Nat) (n : Nat) (M : Nat → va_E) (pc : Nat) (lv : List (Nat × Value)) (st : List Value) : Prop :=
  ∀ (H : Heap) (locs : List Loc) (ls : Array Slot), mm D ad n M H → va_S A s.heap H locs → lv_has ls nL lv → W p l e R s m args below meth c H locs cells slots Q (F0 m pc ls st)
/-- a contract's start and end over the memory -/
def mPc (D : va_G) (cy : Nat → ClassId) (ad : Nat → Nat) (n : Nat) (A : Nat → Prop) (as : List Value) (M : Nat → va_E) : Array Value → State → Prop :=
  va_Pc as (fun U => mm D ad n M U.heap ∧ mK D cy U ∧ ∀ q, U.heap.size ≤ q → A q)
def mB (D : va_G) (ad : Nat → Nat) (n : Nat) (M : Nat → va_E) (t : State) : Prop := mm D ad n M t.heap
def mMv (l : Launch) (y : MethodName) (ws : List Cond) (rm : Room) (D : va_G) (cy : Nat → ClassId) (ad : Nat → Nat) (n : Nat) (A : Nat → Prop) (as : List Value) (M : Nat → va_E) (post : (Nat → va_E) → Prop) : Prop :=
  Met l y ws rm (mPc D cy ad n A as M) (va_Qv post (mB D ad n) A) 0 0 A
def mMi (l : Launch) (y : MethodName) (ws : List Cond) (rm : Room) (D : va_G) (cy : Nat → ClassId) (ad : Nat → Nat) (n : Nat) (A : Nat → Prop) (as : List Value) (M : Nat → va_E) (post : Int32 → (Nat → va_E) → Prop) : Prop :=
  Met l y ws rm (mPc D cy ad n A as M) (va_Qi post (mB D ad n) A) 0 0 A
def mMl (l : Launch) (y : MethodName) (ws : List Cond) (rm : Room) (D : va_G) (cy : Nat → ClassId) (ad : Nat → Nat) (n : Nat) (A : Nat → Prop) (as : List Value) (M : Nat → va_E) (post : Int64 → (Nat → va_E) → Prop) : Prop :=
  Met l y ws rm (mPc D cy ad n A as M) (va_Ql post (mB D ad n) A) 0 0 A
def mMq (l : Launch) (y : MethodName) (ws : List Cond) (rm : Room) (D : va_G) (cy : Nat → ClassId) (ad : Nat → Nat) (n : Nat) (A : Nat → Prop) (as : List Value) (M : Nat → va_E) (post : Option Nat → (Nat → va_E) → Prop) : Prop :=
  Met l y ws rm (mPc D cy ad n A as M) (va_Qq post (mB D ad n) A) 0 0 A
/-- nothing but the objects of S has changed -/
def Fr (S : List Nat) (M M' : Nat → va_E) : Prop := ∀ k, k ∉ S → M' k = M k
theorem Fr.rf {S : List Nat} {M : Nat → va_E} : Fr S M M := fun _ _ => rfl
theorem Fr.tr {S : List Nat} {M M' M'' : Nat → va_E} (h : Fr S M M') (h' : Fr S M' M'') : Fr S M M'' := fun k hk => (h' k hk).trans (h k hk)
theorem Fr.up {S : List Nat} {M M' : Nat → va_E} {k : Nat} {e : va_E} (h : Fr S M M') (hk : k ∈ S) : Fr S M (va_up M' k e) := fun j hj => by
  rw [va_up_ne _ _ (fun q => hj (by rw [q]; exact hk))]; exact h j hj
theorem Fr.sub {S S' : List Nat} {M M' : Nat → va_E} (h : Fr S M M') (hs : ∀ k ∈ S, k ∈ S') : Fr S' M M' := fun k hk => h k (fun q => hk (hs k q))
theorem up_up {α : Type} (f : Nat → α) (k : Nat) (v w : α) : va_up (va_up f k v) k w = va_up f k w := bx_uu f k v w
section MEM
variable {p : Program} {l : Launch} {e : Env} {R : Room} {s : State} {m : MethodId} {args : Array Value} {below : List Frame} {meth : Method} {c : Code} {cells slots : Nat} {Q : State → Prop} {D : va_G} {cy : Nat → ClassId} {ad : Nat → Nat} {n : Nat} {A : Nat → Prop} {nL : Nat} {M : Nat → va_E} {pc pc' : Nat} {lv lv' : List (Nat × Value)} {st : List Value} {cc : ByteArray} {own : String} {Ts : List Cond}

theorem m_iconst (C : mC p s m args c cc nL own Ts D cy ad n A) {k : Int} {v : Int32} (hd : decode cc pc = .ok (.iconst k, 1)) (hv : Int32.ofInt k = v) (hp : pc + 1 = pc') (kk : mW p l e R s m args below meth c D A nL cells slots Q ad n M pc' lv (.int v :: st)) : mW p l e R s m args below meth c D A nL cells slots Q ad n M pc lv st := by
  subst hp
  exact fun H locs ls hP hS hl => lv_iconst C.1.1 C.1.2.1 hd hv (kk H locs ls hP hS hl)
theorem m_bipush (C : mC p s m args c cc nL own Ts D cy ad n A) {k : Int} {v : Int32} (hd : decode cc pc = .ok (.bipush k, 2)) (hv : (Int8.ofInt k).toInt32 = v) (hp : pc + 2 = pc') (kk : mW p l e R s m args below meth c D A nL cells slots Q ad n M pc' lv (.int v :: st)) : mW p l e R s m args below meth c D A nL cells slots Q ad n M pc lv st := by
  subst hp
  exact fun H locs ls hP hS hl => lv_bipush C.1.1 C.1.2.1 hd hv (kk H locs ls hP hS hl)
theorem m_sipush (C : mC p s m args c cc nL own Ts D cy ad n A) {k : Int} {v : Int32} (hd : decode cc pc = .ok (.sipush k, 3)) (hv : (Int16.ofInt k).toInt32 = v) (hp : pc + 3 = pc') (kk : mW p l e R s m args below meth c D A nL cells slots Q ad n M pc' lv (.int v :: st)) : mW p l e R s m args below meth c D A nL cells slots Q ad n M pc lv st := by
  subst hp
  exact fun H locs ls hP hS hl => lv_sipush C.1.1 C.1.2.1 hd hv (kk H locs ls hP hS hl)
theorem m_lconst (C : mC p s m args c cc nL own Ts D cy ad n A) {k : Fin 2} {v : Int64} (hd : decode cc pc = .ok (.lconst k, 1)) (hv : Int64.ofNat (k : Nat) = v) (hp : pc + 1 = pc') (kk : mW p l e R s m args below meth c D A nL cells slots Q ad n M pc' lv (.long v :: st)) : mW p l e R s m args below meth c D A nL cells slots Q ad n M pc lv st := by
  subst hp
  exact fun H locs ls hP hS hl => lv_lconst C.1.1 C.1.2.1 hd hv (kk H locs ls hP hS hl)
theorem m_null (C : mC p s m args c cc nL own Ts D cy ad n A)  (hd : decode cc pc = .ok (.aconst_null, 1))  (hp : pc + 1 = pc') (kk : mW p l e R s m args below meth c D A nL cells slots Q ad n M pc' lv (.null :: st)) : mW p l e R s m args below meth c D A nL cells slots Q ad n M pc lv st := by
  subst hp
  exact fun H locs ls hP hS hl => lv_null C.1.1 C.1.2.1 hd  (kk H locs ls hP hS hl)
theorem m_ldc (C : mC p s m args c cc nL own Ts D cy ad n A) {ix : Nat} {v : Int32} (hd : decode cc pc = .ok (.ldc ix, 2)) (hm : Cond.constant own ix v ∈ Ts) (hp : pc + 2 = pc') (kk : mW p l e R s m args below meth c D A nL cells slots Q ad n M pc' lv (.int v :: st)) : mW p l e R s m args below meth c D A nL cells slots Q ad n M pc lv st := by
  subst hp
  exact fun H locs ls hP hS hl => lv_ldc C.1.1 C.1.2.1 C.1.2.2.2.1 (C.1.2.2.2.2 _ hm) hd (kk H locs ls hP hS hl)
theorem m_ldc2 (C : mC p s m args c cc nL own Ts D cy ad n A) {ix : Nat} {v : Int64} (hd : decode cc pc = .ok (.ldc2_w ix, 3)) (hm : Cond.constantLong own ix v ∈ Ts) (hp : pc + 3 = pc') (kk : mW p l e R s m args below meth c D A nL cells slots Q ad n M pc' lv (.long v :: st)) : mW p l e R s m args below meth c D A nL cells slots Q ad n M pc lv st := by
  subst hp
  exact fun H locs ls hP hS hl => lv_ldc2 C.1.1 C.1.2.1 C.1.2.2.2.1 (C.1.2.2.2.2 _ hm) hd (kk H locs ls hP hS hl)
theorem m_iload_n (C : mC p s m args c cc nL own Ts D cy ad n A) {f : Fin 4} {i : Nat} {x : Int32} (hd : decode cc pc = .ok (.iload_n f, 1)) (hi : (f : Nat) = i) (k : Nat) (hk : lv[k]? = some (i, .int x)) (hp : pc + 1 = pc') (kk : mW p l e R s m args below meth c D A nL cells slots Q ad n M pc' lv (.int x :: st)) : mW p l e R s m args below meth c D A nL cells slots Q ad n M pc lv st := by
  subst hp
  exact fun H locs ls hP hS hl => lv_iload_n C.1.1 C.1.2.1 hd hi (lv_at hl k hk) (kk H locs ls hP hS hl)
theorem m_iload (C : mC p s m args c cc nL own Ts D cy ad n A) {i : Nat} {x : Int32} (hd : decode cc pc = .ok (.iload i, 2)) (k : Nat) (hk : lv[k]? = some (i, .int x)) (hp : pc + 2 = pc') (kk : mW p l e R s m args below meth c D A nL cells slots Q ad n M pc' lv (.int x :: st)) : mW p l e R s m args below meth c D A nL cells slots Q ad n M pc lv st := by
  subst hp
  exact fun H locs ls hP hS hl => lv_iload C.1.1 C.1.2.1 hd (lv_at hl k hk) (kk H locs ls hP hS hl)
theorem m_lload_n (C : mC p s m args c cc nL own Ts D cy ad n A) {f : Fin 4} {i : Nat} {x : Int64} (hd : decode cc pc = .ok (.lload_n f, 1)) (hi : (f : Nat) = i) (k : Nat) (hk : lv[k]? = some (i, .long x)) (hp : pc + 1 = pc') (kk : mW p l e R s m args below meth c D A nL cells slots Q ad n M pc' lv (.long x :: st)) : mW p l e R s m args below meth c D A nL cells slots Q ad n M pc lv st := by
  subst hp
  exact fun H locs ls hP hS hl => lv_lload_n C.1.1 C.1.2.1 hd hi (lv_at hl k hk) (kk H locs ls hP hS hl)
theorem m_lload (C : mC p s m args c cc nL own Ts D cy ad n A) {i : Nat} {x : Int64} (hd : decode cc pc = .ok (.lload i, 2)) (k : Nat) (hk : lv[k]? = some (i, .long x)) (hp : pc + 2 = pc') (kk : mW p l e R s m args below meth c D A nL cells slots Q ad n M pc' lv (.long x :: st)) : mW p l e R s m args below meth c D A nL cells slots Q ad n M pc lv st := by
  subst hp
  exact fun H locs ls hP hS hl => lv_lload C.1.1 C.1.2.1 hd (lv_at hl k hk) (kk H locs ls hP hS hl)
theorem m_aload_n (C : mC p s m args c cc nL own Ts D cy ad n A) {f : Fin 4} {i : Nat} {x : Nat} (hd : decode cc pc = .ok (.aload_n f, 1)) (hi : (f : Nat) = i) (k : Nat) (hk : lv[k]? = some (i, .ref x)) (hp : pc + 1 = pc') (kk : mW p l e R s m args below meth c D A nL cells slots Q ad n M pc' lv (.ref x :: st)) : mW p l e R s m args below meth c D A nL cells slots Q ad n M pc lv st := by
  subst hp
  exact fun H locs ls hP hS hl => lv_aload_n C.1.1 C.1.2.1 hd hi (lv_at hl k hk) (kk H locs ls hP hS hl)
theorem m_aload (C : mC p s m args c cc nL own Ts D cy ad n A) {i : Nat} {x : Nat} (hd : decode cc pc = .ok (.aload i, 2)) (k : Nat) (hk : lv[k]? = some (i, .ref x)) (hp : pc + 2 = pc') (kk : mW p l e R s m args below meth c D A nL cells slots Q ad n M pc' lv (.ref x :: st)) : mW p l e R s m args below meth c D A nL cells slots Q ad n M pc lv st := by
  subst hp
  exact fun H locs ls hP hS hl => lv_aload C.1.1 C.1.2.1 hd (lv_at hl k hk) (kk H locs ls hP hS hl)
theorem m_istore_n (C : mC p s m args c cc nL own Ts D cy ad n A) {f : Fin 4} {i : Nat} {x : Int32} (hd : decode cc pc = .ok (.istore_n f, 1)) (hi : (f : Nat) = i) (hn : i < nL) (hl : (i, Value.int x) :: lv.filter (fun q => !(q.1 == i) && !(q.1 + 1 == i && q.2.category == 2)) = lv') (hp : pc + 1 = pc') (kk : mW p l e R s m args below meth c D A nL cells slots Q ad n M pc' lv' st) : mW p l e R s m args below meth c D A nL cells slots Q ad n M pc lv (.int x :: st) := by
  subst hp
  exact fun H locs ls hP hS h => lv_istore_n C.1.1 C.1.2.1 hd hi h hn hl (fun ls' h' => kk H locs ls' hP hS h')
theorem m_istore (C : mC p s m args c cc nL own Ts D cy ad n A) {i : Nat} {x : Int32} (hd : decode cc pc = .ok (.istore i, 2)) (hn : i < nL) (hl : (i, Value.int x) :: lv.filter (fun q => !(q.1 == i) && !(q.1 + 1 == i && q.2.category == 2)) = lv') (hp : pc + 2 = pc') (kk : mW p l e R s m args below meth c D A nL cells slots Q ad n M pc' lv' st) : mW p l e R s m args below meth c D A nL cells slots Q ad n M pc lv (.int x :: st) := by
  subst hp
  exact fun H locs ls hP hS h => lv_istore C.1.1 C.1.2.1 hd h hn hl (fun ls' h' => kk H locs ls' hP hS h')
theorem m_lstore_n (C : mC p s m args c cc nL own Ts D cy ad n A) {f : Fin 4} {i : Nat} {x : Int64} (hd : decode cc pc = .ok (.lstore_n f, 1)) (hi : (f : Nat) = i) (hn : i + 1 < nL) (hl : (i, Value.long x) :: lv.filter (fun q => !(q.1 == i) && (!(q.1 == i + 1) && !(q.1 + 1 == i && q.2.category == 2))) = lv') (hp : pc + 1 = pc') (kk : mW p l e R s m args below meth c D A nL cells slots Q ad n M pc' lv' st) : mW p l e R s m args below meth c D A nL cells slots Q ad n M pc lv (.long x :: st) := by
  subst hp
  exact fun H locs ls hP hS h => lv_lstore_n C.1.1 C.1.2.1 hd hi h hn hl (fun ls' h' => kk H locs ls' hP hS h')
theorem m_lstore (C : mC p s m args c cc nL own Ts D cy ad n A) {i : Nat} {x : Int64} (hd : decode cc pc = .ok (.lstore i, 2)) (hn : i + 1 < nL) (hl : (i, Value.long x) :: lv.filter (fun q => !(q.1 == i) && (!(q.1 == i + 1) && !(q.1 + 1 == i && q.2.category == 2))) = lv') (hp : pc + 2 = pc') (kk : mW p l e R s m args below meth c D A nL cells slots Q ad n M pc' lv' st) : mW p l e R s m args below meth c D A nL cells slots Q ad n M pc lv (.long x :: st) := by
  subst hp
  exact fun H locs ls hP hS h => lv_lstore C.1.1 C.1.2.1 hd h hn hl (fun ls' h' => kk H locs ls' hP hS h')
theorem m_astore_n (C : mC p s m args c cc nL own Ts D cy ad n A) {f : Fin 4} {i : Nat} {x : Nat} (hd : decode cc pc = .ok (.astore_n f, 1)) (hi : (f : Nat) = i) (hn : i < nL) (hl : (i, Value.ref x) :: lv.filter (fun q => !(q.1 == i) && !(q.1 + 1 == i && q.2.category == 2)) = lv') (hp : pc + 1 = pc') (kk : mW p l e R s m args below meth c D A nL cells slots Q ad n M pc' lv' st) : mW p l e R s m args below meth c D A nL cells slots Q ad n M pc lv (.ref x :: st) := by
  subst hp
  exact fun H locs ls hP hS h => lv_astore_n C.1.1 C.1.2.1 hd hi h hn hl (fun ls' h' => kk H locs ls' hP hS h')
theorem m_astore (C : mC p s m args c cc nL own Ts D cy ad n A) {i : Nat} {x : Nat} (hd : decode cc pc = .ok (.astore i, 2)) (hn : i < nL) (hl : (i, Value.ref x) :: lv.filter (fun q => !(q.1 == i) && !(q.1 + 1 == i && q.2.category == 2)) = lv') (hp : pc + 2 = pc') (kk : mW p l e R s m args below meth c D A nL cells slots Q ad n M pc' lv' st) : mW p l e R s m args below meth c D A nL cells slots Q ad n M pc lv (.ref x :: st) := by
  subst hp
  exact fun H locs ls hP hS h => lv_astore C.1.1 C.1.2.1 hd h hn hl (fun ls' h' => kk H locs ls' hP hS h')
theorem m_iinc (C : mC p s m args c cc nL own Ts D cy ad n A) {i k : Nat} {d : Int} {x v : Int32} (hd : decode cc pc = .ok (.iinc i d, 3)) (hk : lv[k]? = some (i, .int x)) (hv : x + Int32.ofInt d = v) (hn : i < nL) (hl : (i, Value.int v) :: lv.filter (fun q => !(q.1 == i) && !(q.1 + 1 == i && q.2.category == 2)) = lv') (hp : pc + 3 = pc') (kk : mW p l e R s m args below meth c D A nL cells slots Q ad n M pc' lv' st) : mW p l e R s m args below meth c D A nL cells slots Q ad n M pc lv st := by
  subst hp
  exact fun H locs ls hP hS h => lv_iinc C.1.1 C.1.2.1 hd h hk hv hn hl (fun ls' h' => kk H locs ls' hP hS h')
theorem m_iadd (C : mC p s m args c cc nL own Ts D cy ad n A) {x y v : Int32} (hd : decode cc pc = .ok (.iadd, 1))  (hv : x + y = v) (hp : pc + 1 = pc') (kk : mW p l e R s m args below meth c D A nL cells slots Q ad n M pc' lv (.int v :: st)) : mW p l e R s m args below meth c D A nL cells slots Q ad n M pc lv (.int y :: .int x :: st) := by
  subst hp
  subst hv
  exact fun H locs ls hP hS hl => lv_iadd C.1.1 C.1.2.1 hd  (kk H locs ls hP hS hl)
theorem m_isub (C : mC p s m args c cc nL own Ts D cy ad n A) {x y v : Int32} (hd : decode cc pc = .ok (.isub, 1))  (hv : x - y = v) (hp : pc + 1 = pc') (kk : mW p l e R s m args below meth c D A nL cells slots Q ad n M pc' lv (.int v :: st)) : mW p l e R s m args below meth c D A nL cells slots Q ad n M pc lv (.int y :: .int x :: st) := by
  subst hp
  subst hv
  exact fun H locs ls hP hS hl => lv_isub C.1.1 C.1.2.1 hd  (kk H locs ls hP hS hl)
theorem m_imul (C : mC p s m args c cc nL own Ts D cy ad n A) {x y v : Int32} (hd : decode cc pc = .ok (.imul, 1))  (hv : x * y = v) (hp : pc + 1 = pc') (kk : mW p l e R s m args below meth c D A nL cells slots Q ad n M pc' lv (.int v :: st)) : mW p l e R s m args below meth c D A nL cells slots Q ad n M pc lv (.int y :: .int x :: st) := by
  subst hp
  subst hv
  exact fun H locs ls hP hS hl => lv_imul C.1.1 C.1.2.1 hd  (kk H locs ls hP hS hl)
theorem m_iand (C : mC p s m args c cc nL own Ts D cy ad n A) {x y v : Int32} (hd : decode cc pc = .ok (.iand, 1))  (hv : x &&& y = v) (hp : pc + 1 = pc') (kk : mW p l e R s m args below meth c D A nL cells slots Q ad n M pc' lv (.int v :: st)) : mW p l e R s m args below meth c D A nL cells slots Q ad n M pc lv (.int y :: .int x :: st) := by
  subst hp
  subst hv
  exact fun H locs ls hP hS hl => lv_iand C.1.1 C.1.2.1 hd  (kk H locs ls hP hS hl)
theorem m_ior (C : mC p s m args c cc nL own Ts D cy ad n A) {x y v : Int32} (hd : decode cc pc = .ok (.ior, 1))  (hv : x ||| y = v) (hp : pc + 1 = pc') (kk : mW p l e R s m args below meth c D A nL cells slots Q ad n M pc' lv (.int v :: st)) : mW p l e R s m args below meth c D A nL cells slots Q ad n M pc lv (.int y :: .int x :: st) := by
  subst hp
  subst hv
  exact fun H locs ls hP hS hl => lv_ior C.1.1 C.1.2.1 hd  (kk H locs ls hP hS hl)
theorem m_ixor (C : mC p s m args c cc nL own Ts D cy ad n A) {x y v : Int32} (hd : decode cc pc = .ok (.ixor, 1))  (hv : x ^^^ y = v) (hp : pc + 1 = pc') (kk : mW p l e R s m args below meth c D A nL cells slots Q ad n M pc' lv (.int v :: st)) : mW p l e R s m args below meth c D A nL cells slots Q ad n M pc lv (.int y :: .int x :: st) := by
  subst hp
  subst hv
  exact fun H locs ls hP hS hl => lv_ixor C.1.1 C.1.2.1 hd  (kk H locs ls hP hS hl)
theorem m_ishl (C : mC p s m args c cc nL own Ts D cy ad n A) {x y v : Int32} (hd : decode cc pc = .ok (.ishl, 1))  (hv : x <<< (y &&& 31) = v) (hp : pc + 1 = pc') (kk : mW p l e R s m args below meth c D A nL cells slots Q ad n M pc' lv (.int v :: st)) : mW p l e R s m args below meth c D A nL cells slots Q ad n M pc lv (.int y :: .int x :: st) := by
  subst hp
  subst hv
  exact fun H locs ls hP hS hl => lv_ishl C.1.1 C.1.2.1 hd  (kk H locs ls hP hS hl)
theorem m_ishr (C : mC p s m args c cc nL own Ts D cy ad n A) {x y v : Int32} (hd : decode cc pc = .ok (.ishr, 1))  (hv : x >>> (y &&& 31) = v) (hp : pc + 1 = pc') (kk : mW p l e R s m args below meth c D A nL cells slots Q ad n M pc' lv (.int v :: st)) : mW p l e R s m args below meth c D A nL cells slots Q ad n M pc lv (.int y :: .int x :: st) := by
  subst hp
  subst hv
  exact fun H locs ls hP hS hl => lv_ishr C.1.1 C.1.2.1 hd  (kk H locs ls hP hS hl)
theorem m_idiv (C : mC p s m args c cc nL own Ts D cy ad n A) {x y v : Int32} (hd : decode cc pc = .ok (.idiv, 1)) (hne : ¬ y = 0) (hv : x / y = v) (hp : pc + 1 = pc') (kk : mW p l e R s m args below meth c D A nL cells slots Q ad n M pc' lv (.int v :: st)) : mW p l e R s m args below meth c D A nL cells slots Q ad n M pc lv (.int y :: .int x :: st) := by
  subst hp
  subst hv
  exact fun H locs ls hP hS hl => lv_idiv C.1.1 C.1.2.1 hd hne (kk H locs ls hP hS hl)
theorem m_irem (C : mC p s m args c cc nL own Ts D cy ad n A) {x y v : Int32} (hd : decode cc pc = .ok (.irem, 1)) (hne : ¬ y = 0) (hv : x - x / y * y = v) (hp : pc + 1 = pc') (kk : mW p l e R s m args below meth c D A nL cells slots Q ad n M pc' lv (.int v :: st)) : mW p l e R s m args below meth c D A nL cells slots Q ad n M pc lv (.int y :: .int x :: st) := by
  subst hp
  subst hv
  exact fun H locs ls hP hS hl => lv_irem C.1.1 C.1.2.1 hd hne (kk H locs ls hP hS hl)
theorem m_ineg (C : mC p s m args c cc nL own Ts D cy ad n A) {x v : Int32} (hd : decode cc pc = .ok (.ineg, 1))  (hv : -x = v) (hp : pc + 1 = pc') (kk : mW p l e R s m args below meth c D A nL cells slots Q ad n M pc' lv (.int v :: st)) : mW p l e R s m args below meth c D A nL cells slots Q ad n M pc lv (.int x :: st) := by
  subst hp
  subst hv
  exact fun H locs ls hP hS hl => lv_ineg C.1.1 C.1.2.1 hd  (kk H locs ls hP hS hl)
theorem m_ladd (C : mC p s m args c cc nL own Ts D cy ad n A) {x y v : Int64} (hd : decode cc pc = .ok (.ladd, 1))  (hv : x + y = v) (hp : pc + 1 = pc') (kk : mW p l e R s m args below meth c D A nL cells slots Q ad n M pc' lv (.long v :: st)) : mW p l e R s m args below meth c D A nL cells slots Q ad n M pc lv (.long y :: .long x :: st) := by
  subst hp
  subst hv
  exact fun H locs ls hP hS hl => lv_ladd C.1.1 C.1.2.1 hd  (kk H locs ls hP hS hl)
theorem m_lsub (C : mC p s m args c cc nL own Ts D cy ad n A) {x y v : Int64} (hd : decode cc pc = .ok (.lsub, 1))  (hv : x - y = v) (hp : pc + 1 = pc') (kk : mW p l e R s m args below meth c D A nL cells slots Q ad n M pc' lv (.long v :: st)) : mW p l e R s m args below meth c D A nL cells slots Q ad n M pc lv (.long y :: .long x :: st) := by
  subst hp
  subst hv
  exact fun H locs ls hP hS hl => lv_lsub C.1.1 C.1.2.1 hd  (kk H locs ls hP hS hl)
theorem m_lmul (C : mC p s m args c cc nL own Ts D cy ad n A) {x y v : Int64} (hd : decode cc pc = .ok (.lmul, 1))  (hv : x * y = v) (hp : pc + 1 = pc') (kk : mW p l e R s m args below meth c D A nL cells slots Q ad n M pc' lv (.long v :: st)) : mW p l e R s m args below meth c D A nL cells slots Q ad n M pc lv (.long y :: .long x :: st) := by
  subst hp
  subst hv
  exact fun H locs ls hP hS hl => lv_lmul C.1.1 C.1.2.1 hd  (kk H locs ls hP hS hl)
theorem m_land (C : mC p s m args c cc nL own Ts D cy ad n A) {x y v : Int64} (hd : decode cc pc = .ok (.land, 1))  (hv : x &&& y = v) (hp : pc + 1 = pc') (kk : mW p l e R s m args below meth c D A nL cells slots Q ad n M pc' lv (.long v :: st)) : mW p l e R s m args below meth c D A nL cells slots Q ad n M pc lv (.long y :: .long x :: st) := by
  subst hp
  subst hv
  exact fun H locs ls hP hS hl => lv_land C.1.1 C.1.2.1 hd  (kk H locs ls hP hS hl)
theorem m_lor (C : mC p s m args c cc nL own Ts D cy ad n A) {x y v : Int64} (hd : decode cc pc = .ok (.lor, 1))  (hv : x ||| y = v) (hp : pc + 1 = pc') (kk : mW p l e R s m args below meth c D A nL cells slots Q ad n M pc' lv (.long v :: st)) : mW p l e R s m args below meth c D A nL cells slots Q ad n M pc lv (.long y :: .long x :: st) := by
  subst hp
  subst hv
  exact fun H locs ls hP hS hl => lv_lor C.1.1 C.1.2.1 hd  (kk H locs ls hP hS hl)
theorem m_ldiv (C : mC p s m args c cc nL own Ts D cy ad n A) {x y v : Int64} (hd : decode cc pc = .ok (.ldiv, 1)) (hne : ¬ y = 0) (hv : x / y = v) (hp : pc + 1 = pc') (kk : mW p l e R s m args below meth c D A nL cells slots Q ad n M pc' lv (.long v :: st)) : mW p l e R s m args below meth c D A nL cells slots Q ad n M pc lv (.long y :: .long x :: st) := by
  subst hp
  subst hv
  exact fun H locs ls hP hS hl => lv_ldiv C.1.1 C.1.2.1 hd hne (kk H locs ls hP hS hl)
theorem m_lneg (C : mC p s m args c cc nL own Ts D cy ad n A) {x v : Int64} (hd : decode cc pc = .ok (.lneg, 1))  (hv : -x = v) (hp : pc + 1 = pc') (kk : mW p l e R s m args below meth c D A nL cells slots Q ad n M pc' lv (.long v :: st)) : mW p l e R s m args below meth c D A nL cells slots Q ad n M pc lv (.long x :: st) := by
  subst hp
  subst hv
  exact fun H locs ls hP hS hl => lv_lneg C.1.1 C.1.2.1 hd  (kk H locs ls hP hS hl)
theorem m_iushr (C : mC p s m args c cc nL own Ts D cy ad n A) {x y v : Int32} (hd : decode cc pc = .ok (.iushr, 1))  (hv : (x.toUInt32 >>> (y.toUInt32 &&& Int32.toUInt32 31)).toInt32 = v) (hp : pc + 1 = pc') (kk : mW p l e R s m args below meth c D A nL cells slots Q ad n M pc' lv (.int v :: st)) : mW p l e R s m args below meth c D A nL cells slots Q ad n M pc lv (.int y :: .int x :: st) := by
  subst hp
  subst hv
  exact fun H locs ls hP hS hl => lv_iushr C.1.1 C.1.2.1 hd rfl (kk H locs ls hP hS hl)
theorem m_lushr (C : mC p s m args c cc nL own Ts D cy ad n A) {x v : Int64} {y : Int32} (hd : decode cc pc = .ok (.lushr, 1))  (hv : (x.toUInt64 >>> (y.toInt64.toUInt64 &&& Int64.toUInt64 63)).toInt64 = v) (hp : pc + 1 = pc') (kk : mW p l e R s m args below meth c D A nL cells slots Q ad n M pc' lv (.long v :: st)) : mW p l e R s m args below meth c D A nL cells slots Q ad n M pc lv (.int y :: .long x :: st) := by
  subst hp
  subst hv
  exact fun H locs ls hP hS hl => lv_lushr C.1.1 C.1.2.1 hd rfl (kk H locs ls hP hS hl)
theorem m_lshl (C : mC p s m args c cc nL own Ts D cy ad n A) {x v : Int64} {y : Int32} (hd : decode cc pc = .ok (.lshl, 1))  (hv : x <<< (y.toInt64 &&& 63) = v) (hp : pc + 1 = pc') (kk : mW p l e R s m args below meth c D A nL cells slots Q ad n M pc' lv (.long v :: st)) : mW p l e R s m args below meth c D A nL cells slots Q ad n M pc lv (.int y :: .long x :: st) := by
  subst hp
  subst hv
  exact fun H locs ls hP hS hl => lv_lshl C.1.1 C.1.2.1 hd rfl (kk H locs ls hP hS hl)
theorem m_lshr (C : mC p s m args c cc nL own Ts D cy ad n A) {x v : Int64} {y : Int32} (hd : decode cc pc = .ok (.lshr, 1))  (hv : x >>> (y.toInt64 &&& 63) = v) (hp : pc + 1 = pc') (kk : mW p l e R s m args below meth c D A nL cells slots Q ad n M pc' lv (.long v :: st)) : mW p l e R s m args below meth c D A nL cells slots Q ad n M pc lv (.int y :: .long x :: st) := by
  subst hp
  subst hv
  exact fun H locs ls hP hS hl => lv_lshr C.1.1 C.1.2.1 hd rfl (kk H locs ls hP hS hl)
theorem m_i2l (C : mC p s m args c cc nL own Ts D cy ad n A) {x : Int32} {v : Int64} (hd : decode cc pc = .ok (.i2l, 1))  (hv : x.toInt64 = v) (hp : pc + 1 = pc') (kk : mW p l e R s m args below meth c D A nL cells slots Q ad n M pc' lv (.long v :: st)) : mW p l e R s m args below meth c D A nL cells slots Q ad n M pc lv (.int x :: st) := by
  subst hp
  subst hv
  exact fun H locs ls hP hS hl => lv_i2l C.1.1 C.1.2.1 hd rfl (kk H locs ls hP hS hl)
theorem m_l2i (C : mC p s m args c cc nL own Ts D cy ad n A) {x : Int64} {v : Int32} (hd : decode cc pc = .ok (.l2i, 1))  (hv : x.toInt32 = v) (hp : pc + 1 = pc') (kk : mW p l e R s m args below meth c D A nL cells slots Q ad n M pc' lv (.int v :: st)) : mW p l e R s m args below meth c D A nL cells slots Q ad n M pc lv (.long x :: st) := by
  subst hp
  subst hv
  exact fun H locs ls hP hS hl => lv_l2i C.1.1 C.1.2.1 hd rfl (kk H locs ls hP hS hl)
theorem m_i2c (C : mC p s m args c cc nL own Ts D cy ad n A) {x v : Int32} (hd : decode cc pc = .ok (.i2c, 1))  (hv : (x.toUInt32 % 65536).toInt32 = v) (hp : pc + 1 = pc') (kk : mW p l e R s m args below meth c D A nL cells slots Q ad n M pc' lv (.int v :: st)) : mW p l e R s m args below meth c D A nL cells slots Q ad n M pc lv (.int x :: st) := by
  subst hp
  subst hv
  exact fun H locs ls hP hS hl => lv_i2c C.1.1 C.1.2.1 hd rfl (kk H locs ls hP hS hl)
theorem m_dup (C : mC p s m args c cc nL own Ts D cy ad n A) {va : Value} (hd : decode cc pc = .ok (.dup, 1)) (h1 : va.category = 1) (hp : pc + 1 = pc') (kk : mW p l e R s m args below meth c D A nL cells slots Q ad n M pc' lv (va :: va :: st)) : mW p l e R s m args below meth c D A nL cells slots Q ad n M pc lv (va :: st) := by
  subst hp
  exact fun H locs ls hP hS hl => lv_dup C.1.1 C.1.2.1 hd h1 (kk H locs ls hP hS hl)
theorem m_pop (C : mC p s m args c cc nL own Ts D cy ad n A) {va : Value} (hd : decode cc pc = .ok (.pop, 1)) (h1 : va.category = 1) (hp : pc + 1 = pc') (kk : mW p l e R s m args below meth c D A nL cells slots Q ad n M pc' lv st) : mW p l e R s m args below meth c D A nL cells slots Q ad n M pc lv (va :: st) := by
  subst hp
  exact fun H locs ls hP hS hl => lv_pop C.1.1 C.1.2.1 hd h1 (kk H locs ls hP hS hl)
theorem m_dup_x1 (C : mC p s m args c cc nL own Ts D cy ad n A) {va vb : Value} (hd : decode cc pc = .ok (.dup_x1, 1)) (h1 : va.category = 1) (h2 : vb.category = 1) (hp : pc + 1 = pc') (kk : mW p l e R s m args below meth c D A nL cells slots Q ad n M pc' lv (va :: vb :: va :: st)) : mW p l e R s m args below meth c D A nL cells slots Q ad n M pc lv (va :: vb :: st) := by
  subst hp
  exact fun H locs ls hP hS hl => lv_dup_x1 C.1.1 C.1.2.1 hd h1 h2 (kk H locs ls hP hS hl)
theorem m_dup2_11 (C : mC p s m args c cc nL own Ts D cy ad n A) {va vb : Value} (hd : decode cc pc = .ok (.dup2, 1)) (h1 : va.category = 1) (h2 : vb.category = 1) (hp : pc + 1 = pc') (kk : mW p l e R s m args below meth c D A nL cells slots Q ad n M pc' lv (va :: vb :: va :: vb :: st)) : mW p l e R s m args below meth c D A nL cells slots Q ad n M pc lv (va :: vb :: st) := by
  subst hp
  exact fun H locs ls hP hS hl => lv_dup2_11 C.1.1 C.1.2.1 hd h1 h2 (kk H locs ls hP hS hl)
theorem m_if_eq (C : mC p s m args c cc nL own Ts D cy ad n A) {x : Int32} {off : Int} {tgt : Nat} (hd : decode cc pc = .ok (.ifCond .eq off, 3)) (ht : (pc : Int) + off = (tgt : Int)) (hp : pc + 3 = pc') (kt : x = 0 → mW p l e R s m args below meth c D A nL cells slots Q ad n M tgt lv st) (kf : ¬ (x = 0) → mW p l e R s m args below meth c D A nL cells slots Q ad n M pc' lv st) : mW p l e R s m args below meth c D A nL cells slots Q ad n M pc lv (.int x :: st) := by
  subst hp
  exact fun H locs ls hP hS hl => lv_if_eq C.1.1 C.1.2.1 hd ht (fun h => kt (by first | exact h | simpa using h) H locs ls hP hS hl) (fun h => kf (by first | exact h | simpa using h) H locs ls hP hS hl)
theorem m_if_ne (C : mC p s m args c cc nL own Ts D cy ad n A) {x : Int32} {off : Int} {tgt : Nat} (hd : decode cc pc = .ok (.ifCond .ne off, 3)) (ht : (pc : Int) + off = (tgt : Int)) (hp : pc + 3 = pc') (kt : ¬ x = 0 → mW p l e R s m args below meth c D A nL cells slots Q ad n M tgt lv st) (kf : ¬ (¬ x = 0) → mW p l e R s m args below meth c D A nL cells slots Q ad n M pc' lv st) : mW p l e R s m args below meth c D A nL cells slots Q ad n M pc lv (.int x :: st) := by
  subst hp
  exact fun H locs ls hP hS hl => lv_if_ne C.1.1 C.1.2.1 hd ht (fun h => kt (by first | exact h | simpa using h) H locs ls hP hS hl) (fun h => kf (by first | exact h | simpa using h) H locs ls hP hS hl)
theorem m_if_lt (C : mC p s m args c cc nL own Ts D cy ad n A) {x : Int32} {off : Int} {tgt : Nat} (hd : decode cc pc = .ok (.ifCond .lt off, 3)) (ht : (pc : Int) + off = (tgt : Int)) (hp : pc + 3 = pc') (kt : x < 0 → mW p l e R s m args below meth c D A nL cells slots Q ad n M tgt lv st) (kf : ¬ (x < 0) → mW p l e R s m args below meth c D A nL cells slots Q ad n M pc' lv st) : mW p l e R s m args below meth c D A nL cells slots Q ad n M pc lv (.int x :: st) := by
  subst hp
  exact fun H locs ls hP hS hl => lv_if_lt C.1.1 C.1.2.1 hd ht (fun h => kt (by first | exact h | simpa using h) H locs ls hP hS hl) (fun h => kf (by first | exact h | simpa using h) H locs ls hP hS hl)
theorem m_if_ge (C : mC p s m args c cc nL own Ts D cy ad n A) {x : Int32} {off : Int} {tgt : Nat} (hd : decode cc pc = .ok (.ifCond .ge off, 3)) (ht : (pc : Int) + off = (tgt : Int)) (hp : pc + 3 = pc') (kt : 0 ≤ x → mW p l e R s m args below meth c D A nL cells slots Q ad n M tgt lv st) (kf : ¬ (0 ≤ x) → mW p l e R s m args below meth c D A nL cells slots Q ad n M pc' lv st) : mW p l e R s m args below meth c D A nL cells slots Q ad n M pc lv (.int x :: st) := by
  subst hp
  exact fun H locs ls hP hS hl => lv_if_ge C.1.1 C.1.2.1 hd ht (fun h => kt (by first | exact h | simpa using h) H locs ls hP hS hl) (fun h => kf (by first | exact h | simpa using h) H locs ls hP hS hl)
theorem m_if_gt (C : mC p s m args c cc nL own Ts D cy ad n A) {x : Int32} {off : Int} {tgt : Nat} (hd : decode cc pc = .ok (.ifCond .gt off, 3)) (ht : (pc : Int) + off = (tgt : Int)) (hp : pc + 3 = pc') (kt : 0 < x → mW p l e R s m args below meth c D A nL cells slots Q ad n M tgt lv st) (kf : ¬ (0 < x) → mW p l e R s m args below meth c D A nL cells slots Q ad n M pc' lv st) : mW p l e R s m args below meth c D A nL cells slots Q ad n M pc lv (.int x :: st) := by
  subst hp
  exact fun H locs ls hP hS hl => lv_if_gt C.1.1 C.1.2.1 hd ht (fun h => kt (by first | exact h | simpa using h) H locs ls hP hS hl) (fun h => kf (by first | exact h | simpa using h) H locs ls hP hS hl)
theorem m_if_le (C : mC p s m args c cc nL own Ts D cy ad n A) {x : Int32} {off : Int} {tgt : Nat} (hd : decode cc pc = .ok (.ifCond .le off, 3)) (ht : (pc : Int) + off = (tgt : Int)) (hp : pc + 3 = pc') (kt : x ≤ 0 → mW p l e R s m args below meth c D A nL cells slots Q ad n M tgt lv st) (kf : ¬ (x ≤ 0) → mW p l e R s m args below meth c D A nL cells slots Q ad n M pc' lv st) : mW p l e R s m args below meth c D A nL cells slots Q ad n M pc lv (.int x :: st) := by
  subst hp
  exact fun H locs ls hP hS hl => lv_if_le C.1.1 C.1.2.1 hd ht (fun h => kt (by first | exact h | simpa using h) H locs ls hP hS hl) (fun h => kf (by first | exact h | simpa using h) H locs ls hP hS hl)
theorem m_icmp_eq (C : mC p s m args c cc nL own Ts D cy ad n A) {x y : Int32} {off : Int} {tgt : Nat} (hd : decode cc pc = .ok (.if_icmp .eq off, 3)) (ht : (pc : Int) + off = (tgt : Int)) (hp : pc + 3 = pc') (kt : x = y → mW p l e R s m args below meth c D A nL cells slots Q ad n M tgt lv st) (kf : ¬ (x = y) → mW p l e R s m args below meth c D A nL cells slots Q ad n M pc' lv st) : mW p l e R s m args below meth c D A nL cells slots Q ad n M pc lv (.int y :: .int x :: st) := by
  subst hp
  exact fun H locs ls hP hS hl => lv_icmp_eq C.1.1 C.1.2.1 hd ht (fun h => kt (by first | exact h | simpa using h) H locs ls hP hS hl) (fun h => kf (by first | exact h | simpa using h) H locs ls hP hS hl)
theorem m_icmp_ne (C : mC p s m args c cc nL own Ts D cy ad n A) {x y : Int32} {off : Int} {tgt : Nat} (hd : decode cc pc = .ok (.if_icmp .ne off, 3)) (ht : (pc : Int) + off = (tgt : Int)) (hp : pc + 3 = pc') (kt : ¬ x = y → mW p l e R s m args below meth c D A nL cells slots Q ad n M tgt lv st) (kf : ¬ (¬ x = y) → mW p l e R s m args below meth c D A nL cells slots Q ad n M pc' lv st) : mW p l e R s m args below meth c D A nL cells slots Q ad n M pc lv (.int y :: .int x :: st) := by
  subst hp
  exact fun H locs ls hP hS hl => lv_icmp_ne C.1.1 C.1.2.1 hd ht (fun h => kt (by first | exact h | simpa using h) H locs ls hP hS hl) (fun h => kf (by first | exact h | simpa using h) H locs ls hP hS hl)
theorem m_icmp_lt (C : mC p s m args c cc nL own Ts D cy ad n A) {x y : Int32} {off : Int} {tgt : Nat} (hd : decode cc pc = .ok (.if_icmp .lt off, 3)) (ht : (pc : Int) + off = (tgt : Int)) (hp : pc + 3 = pc') (kt : x < y → mW p l e R s m args below meth c D A nL cells slots Q ad n M tgt lv st) (kf : ¬ (x < y) → mW p l e R s m args below meth c D A nL cells slots Q ad n M pc' lv st) : mW p l e R s m args below meth c D A nL cells slots Q ad n M pc lv (.int y :: .int x :: st) := by
  subst hp
  exact fun H locs ls hP hS hl => lv_icmp_lt C.1.1 C.1.2.1 hd ht (fun h => kt (by first | exact h | simpa using h) H locs ls hP hS hl) (fun h => kf (by first | exact h | simpa using h) H locs ls hP hS hl)
theorem m_icmp_ge (C : mC p s m args c cc nL own Ts D cy ad n A) {x y : Int32} {off : Int} {tgt : Nat} (hd : decode cc pc = .ok (.if_icmp .ge off, 3)) (ht : (pc : Int) + off = (tgt : Int)) (hp : pc + 3 = pc') (kt : y ≤ x → mW p l e R s m args below meth c D A nL cells slots Q ad n M tgt lv st) (kf : ¬ (y ≤ x) → mW p l e R s m args below meth c D A nL cells slots Q ad n M pc' lv st) : mW p l e R s m args below meth c D A nL cells slots Q ad n M pc lv (.int y :: .int x :: st) := by
  subst hp
  exact fun H locs ls hP hS hl => lv_icmp_ge C.1.1 C.1.2.1 hd ht (fun h => kt (by first | exact h | simpa using h) H locs ls hP hS hl) (fun h => kf (by first | exact h | simpa using h) H locs ls hP hS hl)
theorem m_icmp_gt (C : mC p s m args c cc nL own Ts D cy ad n A) {x y : Int32} {off : Int} {tgt : Nat} (hd : decode cc pc = .ok (.if_icmp .gt off, 3)) (ht : (pc : Int) + off = (tgt : Int)) (hp : pc + 3 = pc') (kt : y < x → mW p l e R s m args below meth c D A nL cells slots Q ad n M tgt lv st) (kf : ¬ (y < x) → mW p l e R s m args below meth c D A nL cells slots Q ad n M pc' lv st) : mW p l e R s m args below meth c D A nL cells slots Q ad n M pc lv (.int y :: .int x :: st) := by
  subst hp
  exact fun H locs ls hP hS hl => lv_icmp_gt C.1.1 C.1.2.1 hd ht (fun h => kt (by first | exact h | simpa using h) H locs ls hP hS hl) (fun h => kf (by first | exact h | simpa using h) H locs ls hP hS hl)
theorem m_icmp_le (C : mC p s m args c cc nL own Ts D cy ad n A) {x y : Int32} {off : Int} {tgt : Nat} (hd : decode cc pc = .ok (.if_icmp .le off, 3)) (ht : (pc : Int) + off = (tgt : Int)) (hp : pc + 3 = pc') (kt : x ≤ y → mW p l e R s m args below meth c D A nL cells slots Q ad n M tgt lv st) (kf : ¬ (x ≤ y) → mW p l e R s m args below meth c D A nL cells slots Q ad n M pc' lv st) : mW p l e R s m args below meth c D A nL cells slots Q ad n M pc lv (.int y :: .int x :: st) := by
  subst hp
  exact fun H locs ls hP hS hl => lv_icmp_le C.1.1 C.1.2.1 hd ht (fun h => kt (by first | exact h | simpa using h) H locs ls hP hS hl) (fun h => kf (by first | exact h | simpa using h) H locs ls hP hS hl)
theorem m_goto (C : mC p s m args c cc nL own Ts D cy ad n A) {off : Int} {tgt : Nat} (hd : decode cc pc = .ok (.goto off, 3)) (ht : (pc : Int) + off = (tgt : Int)) (kk : mW p l e R s m args below meth c D A nL cells slots Q ad n M tgt lv st) : mW p l e R s m args below meth c D A nL cells slots Q ad n M pc lv st :=
  fun H locs ls hP hS hl => lv_goto C.1.1 C.1.2.1 hd ht (kk H locs ls hP hS hl)
theorem m_ifnonnull (C : mC p s m args c cc nL own Ts D cy ad n A) {x : Nat} {off : Int} {tgt : Nat} (hd : decode cc pc = .ok (.ifnonnull off, 3)) (ht : (pc : Int) + off = (tgt : Int)) (kk : mW p l e R s m args below meth c D A nL cells slots Q ad n M tgt lv st) : mW p l e R s m args below meth c D A nL cells slots Q ad n M pc lv (.ref x :: st) :=
  fun H locs ls hP hS hl => lv_ifnonnull C.1.1 C.1.2.1 hd ht (kk H locs ls hP hS hl)
theorem m_lcmp (C : mC p s m args c cc nL own Ts D cy ad n A) {x y : Int64} (hd : decode cc pc = .ok (.lcmp, 1)) {v : Int32} (hv : lg_cmp x y = v) (hp : pc + 1 = pc') (kk : mW p l e R s m args below meth c D A nL cells slots Q ad n M pc' lv (.int v :: st)) : mW p l e R s m args below meth c D A nL cells slots Q ad n M pc lv (.long y :: .long x :: st) := by
  subst hp
  subst hv
  exact fun H locs ls hP hS hl => W.lcmp C.1.1 C.1.2.1 hd (kk H locs ls hP hS hl)
theorem m_look (C : mC p s m args c cc nL own Ts D cy ad n A) {dflt : Int} {ps : Array (Int × Int)} {len : Nat} {x : Int32} {off : Int} {tgt : Nat} (hd : decode cc pc = .ok (.lookupswitch dflt ps, len)) (hs : (ps.toList.zip (ps.toList.drop 1)).all (fun (a, next) => a.1 < next.1) = true) (ho : Op.lookupswitch.offset ps.toList dflt x.toInt = off) (ht : (pc : Int) + off = (tgt : Int)) (kk : mW p l e R s m args below meth c D A nL cells slots Q ad n M tgt lv st) : mW p l e R s m args below meth c D A nL cells slots Q ad n M pc lv (.int x :: st) :=
  fun H locs ls hP hS hl => lv_lookup C.1.1 C.1.2.1 hd hs ho ht (kk H locs ls hP hS hl)
theorem m_tabIn (C : mC p s m args c cc nL own Ts D cy ad n A) {dflt lo hi : Int} {offs : Array Int} {len : Nat} {x : Int32} {off : Int} {tgt : Nat} (hd : decode cc pc = .ok (.tableswitch dflt lo hi offs, len)) (h1 : ¬ x.toInt < lo) (h2 : ¬ hi < x.toInt) (ho : offs[(x.toInt - lo).toNat]? = some off) (ht : (pc : Int) + off = (tgt : Int)) (kk : mW p l e R s m args below meth c D A nL cells slots Q ad n M tgt lv st) : mW p l e R s m args below meth c D A nL cells slots Q ad n M pc lv (.int x :: st) :=
  fun H locs ls hP hS hl => lv_tableIn C.1.1 C.1.2.1 hd h1 h2 ho ht (kk H locs ls hP hS hl)
theorem m_tabOut (C : mC p s m args c cc nL own Ts D cy ad n A) {dflt lo hi : Int} {offs : Array Int} {len : Nat} {x : Int32} {tgt : Nat} (hd : decode cc pc = .ok (.tableswitch dflt lo hi offs, len)) (h : x.toInt < lo ∨ hi < x.toInt) (ht : (pc : Int) + dflt = (tgt : Int)) (kk : mW p l e R s m args below meth c D A nL cells slots Q ad n M tgt lv st) : mW p l e R s m args below meth c D A nL cells slots Q ad n M pc lv (.int x :: st) :=
  fun H locs ls hP hS hl => lv_tableOut C.1.1 C.1.2.1 hd h ht (kk H locs ls hP hS hl)

theorem m_get (C : mC p s m args c cc nL own Ts D cy ad n A) {ref Cn : String} {T : u_T} {N ci ix : Nat} {fs : List Value} {v : Value} (k : Nat) (hk : k < n) (he : M k = .inr (ci, fs)) (hc : vwCl[ci]? = some (Cn, T, N)) (hin : ∀ w ∈ u_ws Cn T N, w ∈ Ts) (j : Nat) (hj : j < N) (hlk : Cond.fieldLink own ix ref (T j).2.1 (T j).2.2.1 ∈ Ts) (hs : (T j).1 = ref) (hv : fs[j]? = some v) (hd : decode cc pc = .ok (.getfield ix, 3)) (hp : pc + 3 = pc') (kk : mW p l e R s m args below meth c D A nL cells slots Q ad n M pc' lv (v :: st)) : mW p l e R s m args below meth c D A nL cells slots Q ad n M pc lv (.ref (ad k) :: st) := by
  subst hp
  exact fun H locs ls hP hS hl => va_get (D := D) (ci := ci) (v := v) C.1.1 C.1.2.1 C.1.2.2.2.2 hin C.1.2.2.2.1 C.2.1.1 hP k (by rw [mm_at hk, he]) hc j hj (C.1.2.2.2.2 _ hlk) (fun _ h9 => hs ▸ h9) hv hd (kk H locs ls hP hS hl)
theorem m_put (C : mC p s m args c cc nL own Ts D cy ad n A) {ref Cn : String} {T : u_T} {N ci ix : Nat} {fs : List Value} {v : Value} {ty : FieldType} {fs' : List Value} (k : Nat) (hk : k < n) (he : M k = .inr (ci, fs)) (hc : vwCl[ci]? = some (Cn, T, N)) (hin : ∀ w ∈ u_ws Cn T N, w ∈ Ts) (ty0 : Nat → FieldType) (hty : ∀ k, k < N → parseFieldDescriptor (T k).2.2.1 = some (ty0 k)) (hnm : ∀ a, a < N → ∀ b, b < N → a ≠ b → (T a).2.1 ≠ (T b).2.1) (j : Nat) (hj : j < N) (hlk : Cond.fieldLink own ix ref (T j).2.1 (T j).2.2.1 ∈ Ts) (hs : (T j).1 = ref) (hfin : (T j).2.2.2 = false) (hdt : parseFieldDescriptor (T j).2.2.1 = some ty) (hn : narrow ty v = v) (hfit : fits ty v = true) (hl : j < fs.length) (hM : fs.set j v = fs') (hd : decode cc pc = .ok (.putfield ix, 3)) (hp : pc + 3 = pc') (kk : ∀ M' : Nat → va_E, M' k = .inr (ci, fs') → Fr [k] M M' → mW p l e R s m args below meth c D A nL cells slots Q ad n M' pc' lv st) : mW p l e R s m args below meth c D A nL cells slots Q ad n M pc lv (v :: .ref (ad k) :: st) := by
  subst hp
  subst hM
  exact fun H locs ls hP hS hl2 => va_put (D := D) (ci := ci) (v := v) (ty := ty) C.1.1 C.1.2.1 C.1.2.2.2.2 hin ty0 hty hnm C.1.2.2.2.1 C.2.1.1 hP C.2.2.1.D hS k (by rw [mm_at hk, he]) hc j hj (C.1.2.2.2.2 _ hlk) (fun _ h9 => hs ▸ h9) hfin hdt hn hfit hl hd (fun H1 locs1 hP1 _ hS1 => kk _ (va_up_self _ _ _) (Fr.rf.up (List.mem_singleton.mpr rfl)) H1 locs1 ls (by rw [mm_set] at hP1; exact hP1) hS1 hl2)
theorem m_putF (C : mC p s m args c cc nL own Ts D cy ad n A) {ref Cn : String} {T : u_T} {N ci ix : Nat} {fs : List Value} {v : Value} {ty : FieldType} {fs' : List Value} (k : Nat) (hk : k < n) (he : M k = .inr (ci, fs)) (hc : vwCl[ci]? = some (Cn, T, N)) (hin : ∀ w ∈ u_ws Cn T N, w ∈ Ts) (ty0 : Nat → FieldType) (hty : ∀ k, k < N → parseFieldDescriptor (T k).2.2.1 = some (ty0 k)) (hnm : ∀ a, a < N → ∀ b, b < N → a ≠ b → (T a).2.1 ≠ (T b).2.1) (j : Nat) (hj : j < N) (hlk : Cond.fieldLink own ix ref (T j).2.1 (T j).2.2.1 ∈ Ts) (hs : (T j).1 = ref) (hfin : (T j).2.2.2 = true) (hnam : meth.name = "<init>") (hown2 : (T j).1 = own) (hdt : parseFieldDescriptor (T j).2.2.1 = some ty) (hn : narrow ty v = v) (hfit : fits ty v = true) (hl : j < fs.length) (hM : fs.set j v = fs') (hd : decode cc pc = .ok (.putfield ix, 3)) (hp : pc + 3 = pc') (kk : ∀ M' : Nat → va_E, M' k = .inr (ci, fs') → Fr [k] M M' → mW p l e R s m args below meth c D A nL cells slots Q ad n M' pc' lv st) : mW p l e R s m args below meth c D A nL cells slots Q ad n M pc lv (v :: .ref (ad k) :: st) := by
  subst hp
  subst hM
  exact fun H locs ls hP hS hl2 => va_putF (D := D) (ci := ci) (v := v) (ty := ty) C.1.1 C.1.2.1 C.1.2.2.2.2 hin ty0 hty hnm C.1.2.2.2.1 C.2.1.1 hP C.2.2.1.D hS k (by rw [mm_at hk, he]) hc j hj (C.1.2.2.2.2 _ hlk) (fun _ h9 => hs ▸ h9) hfin hnam hown2 hdt hn hfit hl hd (fun H1 locs1 hP1 _ hS1 => kk _ (va_up_self _ _ _) (Fr.rf.up (List.mem_singleton.mpr rfl)) H1 locs1 ls (by rw [mm_set] at hP1; exact hP1) hS1 hl2)

theorem m_iald (C : mC p s m args c cc nL own Ts D cy ad n A) {cap : Nat} {f : Nat → Int32} {i : Int32} {v : Int32} (k : Nat) (hk : k < n) (he : M k = .inl (cy 1, cap, .inl f)) (hin : vp_in i cap) (hv : f i.toNatClampNeg = v) (hd : decode cc pc = .ok (.iaload, 1)) (hp : pc + 1 = pc') (kk : mW p l e R s m args below meth c D A nL cells slots Q ad n M pc' lv (.int v :: st)) : mW p l e R s m args below meth c D A nL cells slots Q ad n M pc lv (.int i :: .ref (ad k) :: st) := by
  subst hp
  subst hv
  exact fun H locs ls hP hS hl => va_iald C.1.1 C.1.2.1 C.2.1.1 hP k 1 (by rw [mm_at hk, he]) rfl hin hd (kk H locs ls hP hS hl)
theorem m_cald (C : mC p s m args c cc nL own Ts D cy ad n A) {cap : Nat} {f : Nat → Int32} {i : Int32} {v : Int32} (k : Nat) (hk : k < n) (he : M k = .inl (cy 0, cap, .inl f)) (hin : vp_in i cap) (hv : f i.toNatClampNeg = v) (hd : decode cc pc = .ok (.caload, 1)) (hp : pc + 1 = pc') (kk : mW p l e R s m args below meth c D A nL cells slots Q ad n M pc' lv (.int v :: st)) : mW p l e R s m args below meth c D A nL cells slots Q ad n M pc lv (.int i :: .ref (ad k) :: st) := by
  subst hp
  subst hv
  exact fun H locs ls hP hS hl => va_cald C.1.1 C.1.2.1 C.2.1.1 hP k 0 (by rw [mm_at hk, he]) rfl hin hd (kk H locs ls hP hS hl)
theorem m_zald (C : mC p s m args c cc nL own Ts D cy ad n A) {cap : Nat} {f : Nat → Int32} {i : Int32} {v : Int32} (k : Nat) (hk : k < n) (he : M k = .inl (cy 3, cap, .inl f)) (hin : vp_in i cap) (hv : f i.toNatClampNeg = v) (hd : decode cc pc = .ok (.baload, 1)) (hp : pc + 1 = pc') (kk : mW p l e R s m args below meth c D A nL cells slots Q ad n M pc' lv (.int v :: st)) : mW p l e R s m args below meth c D A nL cells slots Q ad n M pc lv (.int i :: .ref (ad k) :: st) := by
  subst hp
  subst hv
  exact fun H locs ls hP hS hl => va_zald C.1.1 C.1.2.1 C.2.1.1 hP k 3 (by rw [mm_at hk, he]) rfl hin hd (kk H locs ls hP hS hl)
theorem m_lald (C : mC p s m args c cc nL own Ts D cy ad n A) {cap : Nat} {f : Nat → Int64} {i : Int32} {v : Int64} (k : Nat) (hk : k < n) (he : M k = .inl (cy 2, cap, .inr (.inl f))) (hin : vp_in i cap) (hv : f i.toNatClampNeg = v) (hd : decode cc pc = .ok (.laload, 1)) (hp : pc + 1 = pc') (kk : mW p l e R s m args below meth c D A nL cells slots Q ad n M pc' lv (.long v :: st)) : mW p l e R s m args below meth c D A nL cells slots Q ad n M pc lv (.int i :: .ref (ad k) :: st) := by
  subst hp
  subst hv
  exact fun H locs ls hP hS hl => va_lald C.1.1 C.1.2.1 C.2.1.1 hP k 2 (by rw [mm_at hk, he]) rfl hin hd (kk H locs ls hP hS hl)
theorem m_aldq (C : mC p s m args c cc nL own Ts D cy ad n A) {cap : Nat} {f : Nat → Option Nat} {i : Int32} {v : Value} (k : Nat) (hk : k < n) (he : M k = .inl (cy 4, cap, .inr (.inr (.inr (.inr f))))) (hin : vp_in i cap) (hv : va_rf (f i.toNatClampNeg) = v) (hd : decode cc pc = .ok (.aaload, 1)) (hp : pc + 1 = pc') (kk : mW p l e R s m args below meth c D A nL cells slots Q ad n M pc' lv (v :: st)) : mW p l e R s m args below meth c D A nL cells slots Q ad n M pc lv (.int i :: .ref (ad k) :: st) := by
  subst hp
  subst hv
  exact fun H locs ls hP hS hl => va_aldq C.1.1 C.1.2.1 C.2.1.1 hP k 4 (by rw [mm_at hk, he]) rfl hin hd (kk H locs ls hP hS hl)
theorem m_iast (C : mC p s m args c cc nL own Ts D cy ad n A) {cap : Nat} {f : Nat → Int32} {i : Int32} {x : Int32} {E' : va_E} (k : Nat) (hk : k < n) (he : M k = .inl (cy 1, cap, .inl f)) (hin : vp_in i cap) (hM : (.inl (cy 1, cap, .inl (upd f i.toNatClampNeg x)) : va_E) = E') (hd : decode cc pc = .ok (.iastore, 1)) (hp : pc + 1 = pc') (kk : ∀ M' : Nat → va_E, M' k = E' → Fr [k] M M' → mW p l e R s m args below meth c D A nL cells slots Q ad n M' pc' lv st) : mW p l e R s m args below meth c D A nL cells slots Q ad n M pc lv (.int x :: .int i :: .ref (ad k) :: st) := by
  subst hp
  subst hM
  exact fun H locs ls hP hS hl => va_iast C.1.1 C.1.2.1 C.2.1.1 hP C.2.2.1.D hS k 1 (by rw [mm_at hk, he]) rfl hin hd (fun H1 locs1 hP1 _ hS1 => kk _ (va_up_self _ _ _) (Fr.rf.up (List.mem_singleton.mpr rfl)) H1 locs1 ls (by rw [mm_set] at hP1; exact hP1) hS1 hl)
theorem m_cast (C : mC p s m args c cc nL own Ts D cy ad n A) {cap : Nat} {f : Nat → Int32} {i : Int32} {x : Int32} {E' : va_E} (k : Nat) (hk : k < n) (he : M k = .inl (cy 0, cap, .inl f)) (hin : vp_in i cap) (hM : (.inl (cy 0, cap, .inl (upd f i.toNatClampNeg (vp_nar .char x))) : va_E) = E') (hd : decode cc pc = .ok (.castore, 1)) (hp : pc + 1 = pc') (kk : ∀ M' : Nat → va_E, M' k = E' → Fr [k] M M' → mW p l e R s m args below meth c D A nL cells slots Q ad n M' pc' lv st) : mW p l e R s m args below meth c D A nL cells slots Q ad n M pc lv (.int x :: .int i :: .ref (ad k) :: st) := by
  subst hp
  subst hM
  exact fun H locs ls hP hS hl => va_cast C.1.1 C.1.2.1 C.2.1.1 hP C.2.2.1.D hS k 0 (by rw [mm_at hk, he]) rfl hin hd (fun H1 locs1 hP1 _ hS1 => kk _ (va_up_self _ _ _) (Fr.rf.up (List.mem_singleton.mpr rfl)) H1 locs1 ls (by rw [mm_set] at hP1; exact hP1) hS1 hl)
theorem m_zast (C : mC p s m args c cc nL own Ts D cy ad n A) {cap : Nat} {f : Nat → Int32} {i : Int32} {x : Int32} {E' : va_E} (k : Nat) (hk : k < n) (he : M k = .inl (cy 3, cap, .inl f)) (hin : vp_in i cap) (hM : (.inl (cy 3, cap, .inl (upd f i.toNatClampNeg (vp_nar .boolean x))) : va_E) = E') (hd : decode cc pc = .ok (.bastore, 1)) (hp : pc + 1 = pc') (kk : ∀ M' : Nat → va_E, M' k = E' → Fr [k] M M' → mW p l e R s m args below meth c D A nL cells slots Q ad n M' pc' lv st) : mW p l e R s m args below meth c D A nL cells slots Q ad n M pc lv (.int x :: .int i :: .ref (ad k) :: st) := by
  subst hp
  subst hM
  exact fun H locs ls hP hS hl => va_zast C.1.1 C.1.2.1 C.2.1.1 hP C.2.2.1.D hS k 3 (by rw [mm_at hk, he]) rfl hin hd (fun H1 locs1 hP1 _ hS1 => kk _ (va_up_self _ _ _) (Fr.rf.up (List.mem_singleton.mpr rfl)) H1 locs1 ls (by rw [mm_set] at hP1; exact hP1) hS1 hl)
theorem m_last (C : mC p s m args c cc nL own Ts D cy ad n A) {cap : Nat} {f : Nat → Int64} {i : Int32} {x : Int64} {E' : va_E} (k : Nat) (hk : k < n) (he : M k = .inl (cy 2, cap, .inr (.inl f))) (hin : vp_in i cap) (hM : (.inl (cy 2, cap, .inr (.inl (vp_updL f i.toNatClampNeg x))) : va_E) = E') (hd : decode cc pc = .ok (.lastore, 1)) (hp : pc + 1 = pc') (kk : ∀ M' : Nat → va_E, M' k = E' → Fr [k] M M' → mW p l e R s m args below meth c D A nL cells slots Q ad n M' pc' lv st) : mW p l e R s m args below meth c D A nL cells slots Q ad n M pc lv (.long x :: .int i :: .ref (ad k) :: st) := by
  subst hp
  subst hM
  exact fun H locs ls hP hS hl => va_last C.1.1 C.1.2.1 C.2.1.1 hP C.2.2.1.D hS k 2 (by rw [mm_at hk, he]) rfl hin hd (fun H1 locs1 hP1 _ hS1 => kk _ (va_up_self _ _ _) (Fr.rf.up (List.mem_singleton.mpr rfl)) H1 locs1 ls (by rw [mm_set] at hP1; exact hP1) hS1 hl)
theorem m_alen (C : mC p s m args c cc nL own Ts D cy ad n A) {x : vp_A} {cA : ClassId} {ty : FieldType} {v : Int32} (t0 : Nat) (k : Nat) (hk : k < n) (he : M k = .inl (cA, x)) (ht : (tyL cy)[t0]? = some (cA, ty)) (hv : Int32.ofNat x.1 = v) (hd : decode cc pc = .ok (.arraylength, 1)) (hp : pc + 1 = pc') (kk : mW p l e R s m args below meth c D A nL cells slots Q ad n M pc' lv (.int v :: st)) : mW p l e R s m args below meth c D A nL cells slots Q ad n M pc lv (.ref (ad k) :: st) := by
  subst hp
  exact fun H locs ls hP hS hl => va_alen C.1.1 C.1.2.1 C.2.1.1 hP k t0 (by rw [mm_at hk, he]) ht hv hd (kk H locs ls hP hS hl)

theorem mblind {as : List Value} : FrameBlind (mPc D cy ad n A as M) := fun a U g mk q => by
  obtain ⟨q0, qP, qK, qA⟩ := q
  exact ⟨q0, qP, ⟨va_K.moved (u := U) (U := U.calling g mk a) (Vm.Alike.refl U.vm) qK.1, fun q hq => va_Nw.same rfl (u := U) (U := U.calling g mk a) rfl (qK.2 q hq)⟩, qA⟩
theorem m_callVi (C : mC p s m args c cc nL own Ts D cy ad n A) {Cn : String} {b : Nat} {ix : Nat} {y : MethodName} {bytes : ByteArray} {maxL na : Nat} {rt : Option FieldType} {ws : List Cond} {rm : Room} {As rest : List Value} {post : Int32 → (Nat → va_E) → Prop} (hM : mMi l y ws rm D cy ad n A (.ref (ad b) :: As) M post) (cw : CallW R s args own Cn ix y bytes maxL rt ws rm 0 0 na) (hbn : b < n) {ci : Nat} {fs : List Value} (hob : M b = .inr (ci, fs)) {T : u_T} {N : Nat} (hcl : vwCl[ci]? = some (Cn, T, N)) (hn : As.length = na) (hst : st = As.reverse ++ .ref (ad b) :: rest) (hW : (rest.map fun v => v.category).sum ≤ 8) (hd : decode cc pc = .ok (.invokevirtual ix, 3)) (hp : pc + 3 = pc') (hf : cells ≤ R.cells ∧ slots ≤ R.slots) (kk : ∀ (r : Int32) (M' : Nat → va_E), post r M' → mW p l e R s m args below meth c D A nL cells slots Q ad n M' pc' lv (.int r :: rest)) : mW p l e R s m args below meth c D A nL cells slots Q ad n M pc lv st := by
  subst hp
  subst hst
  intro H locs ls hP hS hl
  exact va_calli (va_runV (As := As) (rest := rest) C.1 hM cw ⟨mblind, va_recv C.2.1.1 hP (ci := ci) (q0 := b) hcl (by rw [mm_at hbn, hob]), fun U hU hW => ⟨rfl, by rw [hU]; exact hP, C.2.1.warm hW, fun q hq => C.2.2.2 q (by rw [hU] at hq; exact Nat.le_trans hS.1 hq)⟩⟩ rfl hn hl.1 rfl (lv_room hW) hd hf) hS (fun q _ h => h) (fun q h => h) (fun r M' t H1 locs1 ht hvm hw hB hz1 hk1 hS1 => kk r M' hw H1 locs1 ls (by have h9 : mm D ad n M' t.heap := hB; rw [ht] at h9; exact h9) hS1 hl)
theorem m_callVv (C : mC p s m args c cc nL own Ts D cy ad n A) {Cn : String} {b : Nat} {ix : Nat} {y : MethodName} {bytes : ByteArray} {maxL na : Nat} {rt : Option FieldType} {ws : List Cond} {rm : Room} {As rest : List Value} {post : (Nat → va_E) → Prop} (hM : mMv l y ws rm D cy ad n A (.ref (ad b) :: As) M post) (cw : CallW R s args own Cn ix y bytes maxL rt ws rm 0 0 na) (hbn : b < n) {ci : Nat} {fs : List Value} (hob : M b = .inr (ci, fs)) {T : u_T} {N : Nat} (hcl : vwCl[ci]? = some (Cn, T, N)) (hn : As.length = na) (hst : st = As.reverse ++ .ref (ad b) :: rest) (hW : (rest.map fun v => v.category).sum ≤ 8) (hd : decode cc pc = .ok (.invokevirtual ix, 3)) (hp : pc + 3 = pc') (hf : cells ≤ R.cells ∧ slots ≤ R.slots) (kk : ∀ (M' : Nat → va_E), post M' → mW p l e R s m args below meth c D A nL cells slots Q ad n M' pc' lv rest) : mW p l e R s m args below meth c D A nL cells slots Q ad n M pc lv st := by
  subst hp
  subst hst
  intro H locs ls hP hS hl
  exact va_callv (va_runV (As := As) (rest := rest) C.1 hM cw ⟨mblind, va_recv C.2.1.1 hP (ci := ci) (q0 := b) hcl (by rw [mm_at hbn, hob]), fun U hU hW => ⟨rfl, by rw [hU]; exact hP, C.2.1.warm hW, fun q hq => C.2.2.2 q (by rw [hU] at hq; exact Nat.le_trans hS.1 hq)⟩⟩ rfl hn hl.1 rfl (lv_room hW) hd hf) hS (fun q _ h => h) (fun q h => h) (fun M' t H1 locs1 ht hvm hw hB hz1 hk1 hS1 => kk M' hw H1 locs1 ls (by have h9 : mm D ad n M' t.heap := hB; rw [ht] at h9; exact h9) hS1 hl)
theorem m_callVl (C : mC p s m args c cc nL own Ts D cy ad n A) {Cn : String} {b : Nat} {ix : Nat} {y : MethodName} {bytes : ByteArray} {maxL na : Nat} {rt : Option FieldType} {ws : List Cond} {rm : Room} {As rest : List Value} {post : Int64 → (Nat → va_E) → Prop} (hM : mMl l y ws rm D cy ad n A (.ref (ad b) :: As) M post) (cw : CallW R s args own Cn ix y bytes maxL rt ws rm 0 0 na) (hbn : b < n) {ci : Nat} {fs : List Value} (hob : M b = .inr (ci, fs)) {T : u_T} {N : Nat} (hcl : vwCl[ci]? = some (Cn, T, N)) (hn : As.length = na) (hst : st = As.reverse ++ .ref (ad b) :: rest) (hW : (rest.map fun v => v.category).sum ≤ 8) (hd : decode cc pc = .ok (.invokevirtual ix, 3)) (hp : pc + 3 = pc') (hf : cells ≤ R.cells ∧ slots ≤ R.slots) (kk : ∀ (r : Int64) (M' : Nat → va_E), post r M' → mW p l e R s m args below meth c D A nL cells slots Q ad n M' pc' lv (.long r :: rest)) : mW p l e R s m args below meth c D A nL cells slots Q ad n M pc lv st := by
  subst hp
  subst hst
  intro H locs ls hP hS hl
  exact va_calll (va_runV (As := As) (rest := rest) C.1 hM cw ⟨mblind, va_recv C.2.1.1 hP (ci := ci) (q0 := b) hcl (by rw [mm_at hbn, hob]), fun U hU hW => ⟨rfl, by rw [hU]; exact hP, C.2.1.warm hW, fun q hq => C.2.2.2 q (by rw [hU] at hq; exact Nat.le_trans hS.1 hq)⟩⟩ rfl hn hl.1 rfl (lv_room hW) hd hf) hS (fun q _ h => h) (fun q h => h) (fun r M' t H1 locs1 ht hvm hw hB hz1 hk1 hS1 => kk r M' hw H1 locs1 ls (by have h9 : mm D ad n M' t.heap := hB; rw [ht] at h9; exact h9) hS1 hl)
theorem m_callVq (C : mC p s m args c cc nL own Ts D cy ad n A) {Cn : String} {b : Nat} {ix : Nat} {y : MethodName} {bytes : ByteArray} {maxL na : Nat} {rt : Option FieldType} {ws : List Cond} {rm : Room} {As rest : List Value} {post : Option Nat → (Nat → va_E) → Prop} (hM : mMq l y ws rm D cy ad n A (.ref (ad b) :: As) M post) (cw : CallW R s args own Cn ix y bytes maxL rt ws rm 0 0 na) (hbn : b < n) {ci : Nat} {fs : List Value} (hob : M b = .inr (ci, fs)) {T : u_T} {N : Nat} (hcl : vwCl[ci]? = some (Cn, T, N)) (hn : As.length = na) (hst : st = As.reverse ++ .ref (ad b) :: rest) (hW : (rest.map fun v => v.category).sum ≤ 8) (hd : decode cc pc = .ok (.invokevirtual ix, 3)) (hp : pc + 3 = pc') (hf : cells ≤ R.cells ∧ slots ≤ R.slots) (kk : ∀ (r : Option Nat) (M' : Nat → va_E), post r M' → mW p l e R s m args below meth c D A nL cells slots Q ad n M' pc' lv (va_rf r :: rest)) : mW p l e R s m args below meth c D A nL cells slots Q ad n M pc lv st := by
  subst hp
  subst hst
  intro H locs ls hP hS hl
  exact va_callq (va_runV (As := As) (rest := rest) C.1 hM cw ⟨mblind, va_recv C.2.1.1 hP (ci := ci) (q0 := b) hcl (by rw [mm_at hbn, hob]), fun U hU hW => ⟨rfl, by rw [hU]; exact hP, C.2.1.warm hW, fun q hq => C.2.2.2 q (by rw [hU] at hq; exact Nat.le_trans hS.1 hq)⟩⟩ rfl hn hl.1 rfl (lv_room hW) hd hf) hS (fun q _ h => h) (fun q h => h) (fun r M' t H1 locs1 ht hvm hw hB hz1 hk1 hS1 => kk r M' hw H1 locs1 ls (by have h9 : mm D ad n M' t.heap := hB; rw [ht] at h9; exact h9) hS1 hl)
theorem m_callSi (C : mC p s m args c cc nL own Ts D cy ad n A) {ix : Nat} {y : MethodName} {bytes : ByteArray} {maxL na : Nat} {rt : Option FieldType} {ws : List Cond} {rm : Room} {As rest : List Value} {post : Int32 → (Nat → va_E) → Prop} (hM : mMi l y ws rm D cy ad n A As M post) (cw : CallB R s args own ix y bytes maxL rt ws rm 0 0 na ∧ (Cond.static y).before args s = true) (hn : As.length = na) (hst : st = As.reverse ++ rest) (hW : (rest.map fun v => v.category).sum ≤ 8) (hd : decode cc pc = .ok (.invokestatic ix, 3)) (hp : pc + 3 = pc') (hf : cells ≤ R.cells ∧ slots ≤ R.slots) (kk : ∀ (r : Int32) (M' : Nat → va_E), post r M' → mW p l e R s m args below meth c D A nL cells slots Q ad n M' pc' lv (.int r :: rest)) : mW p l e R s m args below meth c D A nL cells slots Q ad n M pc lv st := by
  subst hp
  subst hst
  intro H locs ls hP hS hl
  exact va_calli (va_runS (As := As) (rest := rest) C.1 hM cw ⟨mblind, fun U hU hW => ⟨rfl, by rw [hU]; exact hP, C.2.1.warm hW, fun q hq => C.2.2.2 q (by rw [hU] at hq; exact Nat.le_trans hS.1 hq)⟩⟩ rfl hn hl.1 rfl (lv_room hW) hd hf) hS (fun q _ h => h) (fun q h => h) (fun r M' t H1 locs1 ht hvm hw hB hz1 hk1 hS1 => kk r M' hw H1 locs1 ls (by have h9 : mm D ad n M' t.heap := hB; rw [ht] at h9; exact h9) hS1 hl)
theorem m_callSv (C : mC p s m args c cc nL own Ts D cy ad n A) {ix : Nat} {y : MethodName} {bytes : ByteArray} {maxL na : Nat} {rt : Option FieldType} {ws : List Cond} {rm : Room} {As rest : List Value} {post : (Nat → va_E) → Prop} (hM : mMv l y ws rm D cy ad n A As M post) (cw : CallB R s args own ix y bytes maxL rt ws rm 0 0 na ∧ (Cond.static y).before args s = true) (hn : As.length = na) (hst : st = As.reverse ++ rest) (hW : (rest.map fun v => v.category).sum ≤ 8) (hd : decode cc pc = .ok (.invokestatic ix, 3)) (hp : pc + 3 = pc') (hf : cells ≤ R.cells ∧ slots ≤ R.slots) (kk : ∀ (M' : Nat → va_E), post M' → mW p l e R s m args below meth c D A nL cells slots Q ad n M' pc' lv rest) : mW p l e R s m args below meth c D A nL cells slots Q ad n M pc lv st := by
  subst hp
  subst hst
  intro H locs ls hP hS hl
  exact va_callv (va_runS (As := As) (rest := rest) C.1 hM cw ⟨mblind, fun U hU hW => ⟨rfl, by rw [hU]; exact hP, C.2.1.warm hW, fun q hq => C.2.2.2 q (by rw [hU] at hq; exact Nat.le_trans hS.1 hq)⟩⟩ rfl hn hl.1 rfl (lv_room hW) hd hf) hS (fun q _ h => h) (fun q h => h) (fun M' t H1 locs1 ht hvm hw hB hz1 hk1 hS1 => kk M' hw H1 locs1 ls (by have h9 : mm D ad n M' t.heap := hB; rw [ht] at h9; exact h9) hS1 hl)
theorem m_callSl (C : mC p s m args c cc nL own Ts D cy ad n A) {ix : Nat} {y : MethodName} {bytes : ByteArray} {maxL na : Nat} {rt : Option FieldType} {ws : List Cond} {rm : Room} {As rest : List Value} {post : Int64 → (Nat → va_E) → Prop} (hM : mMl l y ws rm D cy ad n A As M post) (cw : CallB R s args own ix y bytes maxL rt ws rm 0 0 na ∧ (Cond.static y).before args s = true) (hn : As.length = na) (hst : st = As.reverse ++ rest) (hW : (rest.map fun v => v.category).sum ≤ 8) (hd : decode cc pc = .ok (.invokestatic ix, 3)) (hp : pc + 3 = pc') (hf : cells ≤ R.cells ∧ slots ≤ R.slots) (kk : ∀ (r : Int64) (M' : Nat → va_E), post r M' → mW p l e R s m args below meth c D A nL cells slots Q ad n M' pc' lv (.long r :: rest)) : mW p l e R s m args below meth c D A nL cells slots Q ad n M pc lv st := by
  subst hp
  subst hst
  intro H locs ls hP hS hl
  exact va_calll (va_runS (As := As) (rest := rest) C.1 hM cw ⟨mblind, fun U hU hW => ⟨rfl, by rw [hU]; exact hP, C.2.1.warm hW, fun q hq => C.2.2.2 q (by rw [hU] at hq; exact Nat.le_trans hS.1 hq)⟩⟩ rfl hn hl.1 rfl (lv_room hW) hd hf) hS (fun q _ h => h) (fun q h => h) (fun r M' t H1 locs1 ht hvm hw hB hz1 hk1 hS1 => kk r M' hw H1 locs1 ls (by have h9 : mm D ad n M' t.heap := hB; rw [ht] at h9; exact h9) hS1 hl)
theorem m_callSq (C : mC p s m args c cc nL own Ts D cy ad n A) {ix : Nat} {y : MethodName} {bytes : ByteArray} {maxL na : Nat} {rt : Option FieldType} {ws : List Cond} {rm : Room} {As rest : List Value} {post : Option Nat → (Nat → va_E) → Prop} (hM : mMq l y ws rm D cy ad n A As M post) (cw : CallB R s args own ix y bytes maxL rt ws rm 0 0 na ∧ (Cond.static y).before args s = true) (hn : As.length = na) (hst : st = As.reverse ++ rest) (hW : (rest.map fun v => v.category).sum ≤ 8) (hd : decode cc pc = .ok (.invokestatic ix, 3)) (hp : pc + 3 = pc') (hf : cells ≤ R.cells ∧ slots ≤ R.slots) (kk : ∀ (r : Option Nat) (M' : Nat → va_E), post r M' → mW p l e R s m args below meth c D A nL cells slots Q ad n M' pc' lv (va_rf r :: rest)) : mW p l e R s m args below meth c D A nL cells slots Q ad n M pc lv st := by
  subst hp
  subst hst
  intro H locs ls hP hS hl
  exact va_callq (va_runS (As := As) (rest := rest) C.1 hM cw ⟨mblind, fun U hU hW => ⟨rfl, by rw [hU]; exact hP, C.2.1.warm hW, fun q hq => C.2.2.2 q (by rw [hU] at hq; exact Nat.le_trans hS.1 hq)⟩⟩ rfl hn hl.1 rfl (lv_room hW) hd hf) hS (fun q _ h => h) (fun q h => h) (fun r M' t H1 locs1 ht hvm hw hB hz1 hk1 hS1 => kk r M' hw H1 locs1 ls (by have h9 : mm D ad n M' t.heap := hB; rw [ht] at h9; exact h9) hS1 hl)
theorem m_callNi (C : mC p s m args c cc nL own Ts D cy ad n A) {host : String} {ix : Nat} {y : MethodName} {bytes : ByteArray} {maxL na : Nat} {rt : Option FieldType} {ws : List Cond} {rm : Room} {As rest : List Value} {post : Int32 → (Nat → va_E) → Prop} (hM : mMi l y ws rm D cy ad n A As M post) (cw : va_CN R s args own ix y host bytes maxL rt ws rm 0 0 na ∧ (Cond.static y).before args s = true ∧ True) (hn : As.length = na) (hst : st = As.reverse ++ rest) (hW : (rest.map fun v => v.category).sum ≤ 8) (hd : decode cc pc = .ok (.invokestatic ix, 3)) (hp : pc + 3 = pc') (hf : cells ≤ R.cells ∧ slots ≤ R.slots) (kk : ∀ (r : Int32) (M' : Nat → va_E), post r M' → mW p l e R s m args below meth c D A nL cells slots Q ad n M' pc' lv (.int r :: rest)) : mW p l e R s m args below meth c D A nL cells slots Q ad n M pc lv st := by
  subst hp
  subst hst
  intro H locs ls hP hS hl
  exact va_calli (va_runSN (As := As) (rest := rest) C.1 hM cw ⟨mblind, fun U hU hW => ⟨rfl, by rw [hU]; exact hP, C.2.1.warm hW, fun q hq => C.2.2.2 q (by rw [hU] at hq; exact Nat.le_trans hS.1 hq)⟩⟩ rfl hn hl.1 rfl (lv_room hW) hd hf) hS (fun q _ h => h) (fun q h => h) (fun r M' t H1 locs1 ht hvm hw hB hz1 hk1 hS1 => kk r M' hw H1 locs1 ls (by have h9 : mm D ad n M' t.heap := hB; rw [ht] at h9; exact h9) hS1 hl)
theorem m_callNv (C : mC p s m args c cc nL own Ts D cy ad n A) {host : String} {ix : Nat} {y : MethodName} {bytes : ByteArray} {maxL na : Nat} {rt : Option FieldType} {ws : List Cond} {rm : Room} {As rest : List Value} {post : (Nat → va_E) → Prop} (hM : mMv l y ws rm D cy ad n A As M post) (cw : va_CN R s args own ix y host bytes maxL rt ws rm 0 0 na ∧ (Cond.static y).before args s = true ∧ True) (hn : As.length = na) (hst : st = As.reverse ++ rest) (hW : (rest.map fun v => v.category).sum ≤ 8) (hd : decode cc pc = .ok (.invokestatic ix, 3)) (hp : pc + 3 = pc') (hf : cells ≤ R.cells ∧ slots ≤ R.slots) (kk : ∀ (M' : Nat → va_E), post M' → mW p l e R s m args below meth c D A nL cells slots Q ad n M' pc' lv rest) : mW p l e R s m args below meth c D A nL cells slots Q ad n M pc lv st := by
  subst hp
  subst hst
  intro H locs ls hP hS hl
  exact va_callv (va_runSN (As := As) (rest := rest) C.1 hM cw ⟨mblind, fun U hU hW => ⟨rfl, by rw [hU]; exact hP, C.2.1.warm hW, fun q hq => C.2.2.2 q (by rw [hU] at hq; exact Nat.le_trans hS.1 hq)⟩⟩ rfl hn hl.1 rfl (lv_room hW) hd hf) hS (fun q _ h => h) (fun q h => h) (fun M' t H1 locs1 ht hvm hw hB hz1 hk1 hS1 => kk M' hw H1 locs1 ls (by have h9 : mm D ad n M' t.heap := hB; rw [ht] at h9; exact h9) hS1 hl)
theorem m_callNl (C : mC p s m args c cc nL own Ts D cy ad n A) {host : String} {ix : Nat} {y : MethodName} {bytes : ByteArray} {maxL na : Nat} {rt : Option FieldType} {ws : List Cond} {rm : Room} {As rest : List Value} {post : Int64 → (Nat → va_E) → Prop} (hM : mMl l y ws rm D cy ad n A As M post) (cw : va_CN R s args own ix y host bytes maxL rt ws rm 0 0 na ∧ (Cond.static y).before args s = true ∧ True) (hn : As.length = na) (hst : st = As.reverse ++ rest) (hW : (rest.map fun v => v.category).sum ≤ 8) (hd : decode cc pc = .ok (.invokestatic ix, 3)) (hp : pc + 3 = pc') (hf : cells ≤ R.cells ∧ slots ≤ R.slots) (kk : ∀ (r : Int64) (M' : Nat → va_E), post r M' → mW p l e R s m args below meth c D A nL cells slots Q ad n M' pc' lv (.long r :: rest)) : mW p l e R s m args below meth c D A nL cells slots Q ad n M pc lv st := by
  subst hp
  subst hst
  intro H locs ls hP hS hl
  exact va_calll (va_runSN (As := As) (rest := rest) C.1 hM cw ⟨mblind, fun U hU hW => ⟨rfl, by rw [hU]; exact hP, C.2.1.warm hW, fun q hq => C.2.2.2 q (by rw [hU] at hq; exact Nat.le_trans hS.1 hq)⟩⟩ rfl hn hl.1 rfl (lv_room hW) hd hf) hS (fun q _ h => h) (fun q h => h) (fun r M' t H1 locs1 ht hvm hw hB hz1 hk1 hS1 => kk r M' hw H1 locs1 ls (by have h9 : mm D ad n M' t.heap := hB; rw [ht] at h9; exact h9) hS1 hl)
theorem m_callNq (C : mC p s m args c cc nL own Ts D cy ad n A) {host : String} {ix : Nat} {y : MethodName} {bytes : ByteArray} {maxL na : Nat} {rt : Option FieldType} {ws : List Cond} {rm : Room} {As rest : List Value} {post : Option Nat → (Nat → va_E) → Prop} (hM : mMq l y ws rm D cy ad n A As M post) (cw : va_CN R s args own ix y host bytes maxL rt ws rm 0 0 na ∧ (Cond.static y).before args s = true ∧ True) (hn : As.length = na) (hst : st = As.reverse ++ rest) (hW : (rest.map fun v => v.category).sum ≤ 8) (hd : decode cc pc = .ok (.invokestatic ix, 3)) (hp : pc + 3 = pc') (hf : cells ≤ R.cells ∧ slots ≤ R.slots) (kk : ∀ (r : Option Nat) (M' : Nat → va_E), post r M' → mW p l e R s m args below meth c D A nL cells slots Q ad n M' pc' lv (va_rf r :: rest)) : mW p l e R s m args below meth c D A nL cells slots Q ad n M pc lv st := by
  subst hp
  subst hst
  intro H locs ls hP hS hl
  exact va_callq (va_runSN (As := As) (rest := rest) C.1 hM cw ⟨mblind, fun U hU hW => ⟨rfl, by rw [hU]; exact hP, C.2.1.warm hW, fun q hq => C.2.2.2 q (by rw [hU] at hq; exact Nat.le_trans hS.1 hq)⟩⟩ rfl hn hl.1 rfl (lv_room hW) hd hf) hS (fun q _ h => h) (fun q h => h) (fun r M' t H1 locs1 ht hvm hw hB hz1 hk1 hS1 => kk r M' hw H1 locs1 ls (by have h9 : mm D ad n M' t.heap := hB; rw [ht] at h9; exact h9) hS1 hl)
theorem m_mmax (C : mC p s m args c cc nL own Ts D cy ad n A) {ix : Nat} {x y v : Int32} (h1 : Cond.methodLink own ix Lib.Math.max.name ∈ Ts) (h2 : Cond.static Lib.Math.max.name ∈ Ts) (h3 : Cond.initialized "java/lang/Math" ∈ Ts) (h4 : Cond.code Lib.Math.max.name Lib.Math.max.code 2 (some .int) ∈ Ts) (hfr : 1 ≤ R.frames) (hlo : (st.map fun v => v.category).sum + 13 ≤ R.locals) (hf : cells ≤ R.cells ∧ slots ≤ R.slots) (hv : (if x < y then y else x) = v) (hd : decode cc pc = .ok (.invokestatic ix, 3)) (hp : pc + 3 = pc') (kk : mW p l e R s m args below meth c D A nL cells slots Q ad n M pc' lv (.int v :: st)) : mW p l e R s m args below meth c D A nL cells slots Q ad n M pc lv (.int y :: .int x :: st) := by
  subst hp
  subst hv
  exact fun H locs ls hP hS hl => va_mmax C.1.1 C.1.2.1 (by rw [C.1.2.2.1]; exact hl.1.symm) C.1.2.2.2.1 (C.1.2.2.2.2 _ h1) (C.1.2.2.2.2 _ h2) (C.1.2.2.2.2 _ h3) (C.1.2.2.2.2 _ h4) hfr hlo hf.1 hf.2 hd (kk H locs ls hP hS hl)
theorem m_mmin (C : mC p s m args c cc nL own Ts D cy ad n A) {ix : Nat} {x y v : Int32} (h1 : Cond.methodLink own ix Lib.Math.min.name ∈ Ts) (h2 : Cond.static Lib.Math.min.name ∈ Ts) (h3 : Cond.initialized "java/lang/Math" ∈ Ts) (h4 : Cond.code Lib.Math.min.name Lib.Math.min.code 2 (some .int) ∈ Ts) (hfr : 1 ≤ R.frames) (hlo : (st.map fun v => v.category).sum + 13 ≤ R.locals) (hf : cells ≤ R.cells ∧ slots ≤ R.slots) (hv : (if y < x then y else x) = v) (hd : decode cc pc = .ok (.invokestatic ix, 3)) (hp : pc + 3 = pc') (kk : mW p l e R s m args below meth c D A nL cells slots Q ad n M pc' lv (.int v :: st)) : mW p l e R s m args below meth c D A nL cells slots Q ad n M pc lv (.int y :: .int x :: st) := by
  subst hp
  subst hv
  exact fun H locs ls hP hS hl => va_mmin C.1.1 C.1.2.1 (by rw [C.1.2.2.1]; exact hl.1.symm) C.1.2.2.2.1 (C.1.2.2.2.2 _ h1) (C.1.2.2.2.2 _ h2) (C.1.2.2.2.2 _ h3) (C.1.2.2.2.2 _ h4) hfr hlo hf.1 hf.2 hd (kk H locs ls hP hS hl)
theorem m_mmaxl (C : mC p s m args c cc nL own Ts D cy ad n A) {ix : Nat} {x y v : Int64} (h1 : Cond.methodLink own ix Lib.MathLoose.max_long.x ∈ Ts) (h2 : Cond.static Lib.MathLoose.max_long.x ∈ Ts) (h3 : Cond.initialized "java/lang/Math" ∈ Ts) (h4 : Cond.code Lib.MathLoose.max_long.x Lib.MathLoose.max_long.code 4 (some .long) ∈ Ts) (hfr : 1 ≤ R.frames) (hlo : (st.map fun v => v.category).sum + 15 ≤ R.locals) (hf : cells ≤ R.cells ∧ slots ≤ R.slots) (hv : (if y < x then x else y) = v) (hd : decode cc pc = .ok (.invokestatic ix, 3)) (hp : pc + 3 = pc') (kk : mW p l e R s m args below meth c D A nL cells slots Q ad n M pc' lv (.long v :: st)) : mW p l e R s m args below meth c D A nL cells slots Q ad n M pc lv (.long y :: .long x :: st) := by
  subst hp
  subst hv
  exact fun H locs ls hP hS hl => va_mmax_long C.1.1 C.1.2.1 (by rw [C.1.2.2.1]; exact hl.1.symm) C.1.2.2.2.1 (C.1.2.2.2.2 _ h1) (C.1.2.2.2.2 _ h2) (C.1.2.2.2.2 _ h3) (C.1.2.2.2.2 _ h4) hfr hlo hf.1 hf.2 hd (kk H locs ls hP hS hl)
theorem m_mminl (C : mC p s m args c cc nL own Ts D cy ad n A) {ix : Nat} {x y v : Int64} (h1 : Cond.methodLink own ix Lib.MathLoose.min_long.x ∈ Ts) (h2 : Cond.static Lib.MathLoose.min_long.x ∈ Ts) (h3 : Cond.initialized "java/lang/Math" ∈ Ts) (h4 : Cond.code Lib.MathLoose.min_long.x Lib.MathLoose.min_long.code 4 (some .long) ∈ Ts) (hfr : 1 ≤ R.frames) (hlo : (st.map fun v => v.category).sum + 15 ≤ R.locals) (hf : cells ≤ R.cells ∧ slots ≤ R.slots) (hv : (if y < x then y else x) = v) (hd : decode cc pc = .ok (.invokestatic ix, 3)) (hp : pc + 3 = pc') (kk : mW p l e R s m args below meth c D A nL cells slots Q ad n M pc' lv (.long v :: st)) : mW p l e R s m args below meth c D A nL cells slots Q ad n M pc lv (.long y :: .long x :: st) := by
  subst hp
  subst hv
  exact fun H locs ls hP hS hl => va_mmin_long C.1.1 C.1.2.1 (by rw [C.1.2.2.1]; exact hl.1.symm) C.1.2.2.2.1 (C.1.2.2.2.2 _ h1) (C.1.2.2.2.2 _ h2) (C.1.2.2.2.2 _ h3) (C.1.2.2.2.2 _ h4) hfr hlo hf.1 hf.2 hd (kk H locs ls hP hS hl)
theorem m_iret (C : mC p s m args c cc nL own Ts D cy ad n A) {post : Int32 → (Nat → va_E) → Prop} {v : Int32} {ty : FieldType} (hr : meth.sig.returnType = some ty) (hk : meth.locks = false) (hn : narrow ty (.int v) = .int v) (hd : decode cc pc = .ok (.ireturn, 1)) (hq : post v M) : mW p l e R s m args below meth c D A nL cells slots (MQ below (va_Qi post (mB D ad n) A) args s cells slots A) ad n M pc lv [.int v] :=
  fun H locs ls hP hS hl => W.zret C.1.1 C.1.2.1 hr hn (fun t ht hW => ⟨⟨v, M, rfl, hq, by show mm D ad n M t.heap; rw [ht]; exact hP⟩, hS.F ht⟩) hS.2.2 hd hk
theorem m_lret (C : mC p s m args c cc nL own Ts D cy ad n A) {post : Int64 → (Nat → va_E) → Prop} {v : Int64} (hr : meth.sig.returnType = some .long) (hk : meth.locks = false) (hd : decode cc pc = .ok (.lreturn, 1)) (hq : post v M) : mW p l e R s m args below meth c D A nL cells slots (MQ below (va_Ql post (mB D ad n) A) args s cells slots A) ad n M pc lv [.long v] :=
  fun H locs ls hP hS hl => W.lret C.1.1 C.1.2.1 hr (fun t ht hW => ⟨⟨v, M, rfl, hq, by show mm D ad n M t.heap; rw [ht]; exact hP⟩, hS.F ht⟩) hS.2.2 hd hk
theorem m_vret (C : mC p s m args c cc nL own Ts D cy ad n A) {post : (Nat → va_E) → Prop} (hr : meth.sig.returnType = none) (hk : meth.locks = false) (hd : decode cc pc = .ok (.return_, 1)) (hq : post M) : mW p l e R s m args below meth c D A nL cells slots (MQ below (va_Qv post (mB D ad n) A) args s cells slots A) ad n M pc lv [] :=
  fun H locs ls hP hS hl => W.vret C.1.1 C.1.2.1 hr (fun t ht hW => ⟨⟨M, rfl, hq, by show mm D ad n M t.heap; rw [ht]; exact hP⟩, hS.F ht⟩) hS.2.2 hd hk
theorem m_aret (C : mC p s m args c cc nL own Ts D cy ad n A) {post : Option Nat → (Nat → va_E) → Prop} {v : Value} (o : Option Nat) {rt : FieldType} (hr : meth.sig.returnType = some rt) (hk : meth.locks = false) (hrt : (∃ n, rt = .object n) ∨ ∃ t, rt = .array t) (hv : v = va_rf o) (hd : decode cc pc = .ok (.areturn, 1)) (hq : post o M) : mW p l e R s m args below meth c D A nL cells slots (MQ below (va_Qq post (mB D ad n) A) args s cells slots A) ad n M pc lv [v] := by
  subst hv
  exact fun H locs ls hP hS hl => W.aret C.1.1 C.1.2.1 hr hrt (by cases o with
    | none => exact Or.inl rfl
    | some a => exact Or.inr ⟨a, rfl⟩) (fun t ht hW => ⟨⟨o, M, rfl, hq, by show mm D ad n M t.heap; rw [ht]; exact hP⟩, hS.F ht⟩) hS.2.2 hd hk
/-- a loop: its states by a type of their own, an invariant, a measure that falls -/
theorem m_loop {σ : Type} (Mf : σ → Nat → va_E) (lvf : σ → List (Nat × Value)) (I : σ → Prop) (μ : σ → Nat) (a : σ) (h : I a)
    (hs : ∀ a, I a → (∀ b, I b → μ b < μ a → mW p l e R s m args below meth c D A nL cells slots Q ad n (Mf b) pc (lvf b) st) → mW p l e R s m args below meth c D A nL cells slots Q ad n (Mf a) pc (lvf a) st) : mW p l e R s m args below meth c D A nL cells slots Q ad n (Mf a) pc (lvf a) st := by
  have key : ∀ (j : Nat) (a : σ), μ a < j → I a → mW p l e R s m args below meth c D A nL cells slots Q ad n (Mf a) pc (lvf a) st := by
    intro j
    induction j with
    | zero => intro a h0; exact absurd h0 (Nat.not_lt_zero _)
    | succ j ih => intro a h1 h2; exact hs a h2 (fun b hb hlt => ih b (by omega) hb)
  exact key (μ a + 1) a (Nat.lt_succ_self _) h
/-- the locals in another order, or fewer -/
theorem m_lv (ks : List Nat) (hl : lv_pick lv ks = lv') (kk : mW p l e R s m args below meth c D A nL cells slots Q ad n M pc lv' st) : mW p l e R s m args below meth c D A nL cells slots Q ad n M pc lv st :=
  fun H locs ls hP hS h => kk H locs ls hP hS (lv_sub h ks hl)
end MEM
/-- a contract from the walk of its body -/
theorem m_entry {l : Launch} {y : MethodName} {ws ws' : List Cond} {rm : Room} {D : va_G} {cy : Nat → ClassId} {ad : Nat → Nat} {n : Nat} {A : Nat → Prop} {as : List Value} {M : Nat → va_E} {Qc : Array Value → State → Outcome → State → Prop} {cc : ByteArray} {maxL : Nat} {ret : Option FieldType} {lv : List (Nat × Value)} {own : String} (hI : mI ad n A)
    (hy : plainName y.cls = true) (hw : ws = Cond.code y cc maxL ret :: ws') (ho : y.cls = own) (hle : (lg_sl as).length ≤ maxL) (hlv : lv_args 0 as = lv)
    (body : ∀ (p : Program) (e : Env) (s : State) (m : MethodId) (args : Array Value) (below : List Frame) (meth : Method) (c : Code), mC p s m args c cc maxL own ws D cy ad n A → meth.sig.returnType = ret → meth.locks = false → mW p l e rm s m args below meth c D A maxL 0 0 (MQ below Qc args s 0 0 A) ad n M 0 lv []) : Met l y ws rm (mPc D cy ad n A as M) Qc 0 0 A := by
  refine Met.ofW (cc := cc) (maxL := maxL) (ret := ret) hy hw ?_
  intro p e s m args below meth c s₁ B hml hv
  obtain ⟨rfl, hP, hK, hA⟩ := hv
  have hts := atoms_spec (ws := ws) B.pre
  have hown : s.vm.findClass own = some m.cls := by rw [← ho]; exact findClass_of_methodNamed B.named
  have hl := lv_entry as (n := maxL) hle
  rw [hlv] at hl
  rw [lg_entry_eq]
  exact body p e s m as.toArray below meth c ⟨⟨B.exec, B.bytes, hml, hown, hts⟩, hK, hI, hA⟩ B.returns B.notSynchronized s.heap [] _ hP va_S.rf hl
end
section
theorem nar_z (b : Bool) : narrow .boolean (.int (bI b)) = .int (bI b) := by cases b <;> decide
theorem fit_z (b : Bool) : fits .boolean (.int (bI b)) = true := by cases b <;> decide
/-- the lowest eight bits -/
def lowb (v : Int32) : Nat := v.toBitVec.toNat % 256
theorem lowb_lt (v : Int32) : lowb v < 256 := Nat.mod_lt _ (by decide)
theorem and255 (v : Int32) : v &&& nI 255 = nI (lowb v) := pk_and v 8 (by decide)
theorem lowb_nI {k : Nat} (h : k < 256) : lowb (nI k) = k := by
  unfold lowb
  rw [pk_tn (by omega)]
  omega
theorem bI_0 (b : Bool) : bI b = 0 ↔ b = false := by cases b <;> decide
theorem nI_inj {a b : Nat} (ha : a < 2 ^ 31) (hb : b < 2 ^ 31) (h : nI a = nI b) : a = b := (nI_eq ha hb).mp h
/-- a row: its object r, its cells ra, at most lim of cap; O is all that was added since it was cleared -/
def isRow (cy : Nat → ClassId) (ad : Nat → Nat) (n : Nat) (M : Nat → va_E) (r ra cap lim : Nat) (O : List Nat) : Prop :=
  r < n ∧ ra < n ∧ lim ≤ cap ∧ cap ≤ 2000 ∧ (∀ x ∈ O, x < 256) ∧ ∃ g : Nat → Nat,
    M r = .inr (9, [.ref (ad ra), .int (nI lim), .int (nI (min O.length lim)), .int (bI (decide (lim < O.length)))]) ∧
    M ra = .inl (cy 1, cap, .inl (fun i => nI (g i))) ∧ ∀ i, i < min O.length lim → g i = O.getD i 0
/-- a row of which only its limit is known -/
def preRow (cy : Nat → ClassId) (ad : Nat → Nat) (n : Nat) (M : Nat → va_E) (r ra cap lim : Nat) : Prop :=
  r < n ∧ ra < n ∧ lim ≤ cap ∧ cap ≤ 2000 ∧ ∃ (sz : Int32) (ov : Bool) (g : Nat → Nat),
    M r = .inr (9, [.ref (ad ra), .int (nI lim), .int sz, .int (bI ov)]) ∧ M ra = .inl (cy 1, cap, .inl (fun i => nI (g i)))
theorem isRow.pre {cy : Nat → ClassId} {ad : Nat → Nat} {n : Nat} {M : Nat → va_E} {r ra cap lim : Nat} {O : List Nat} (h : isRow cy ad n M r ra cap lim O) : preRow cy ad n M r ra cap lim := by
  obtain ⟨h1, h2, h3, h4, h5, g, h6, h7, h8⟩ := h
  exact ⟨h1, h2, h3, h4, _, _, g, h6, h7⟩
theorem isRow.ne {cy : Nat → ClassId} {ad : Nat → Nat} {n : Nat} {M : Nat → va_E} {r ra cap lim : Nat} {O : List Nat} (h : isRow cy ad n M r ra cap lim O) : r ≠ ra := by
  obtain ⟨h1, h2, h3, h4, h5, g, h6, h7, h8⟩ := h
  intro q
  subst q
  rw [h6] at h7
  cases h7
theorem isRow.fr {cy : Nat → ClassId} {ad : Nat → Nat} {n : Nat} {M M' : Nat → va_E} {S : List Nat} {r ra cap lim : Nat} {O : List Nat} (h : isRow cy ad n M r ra cap lim O) (hF : Fr S M M') (h1 : r ∉ S) (h2 : ra ∉ S) : isRow cy ad n M' r ra cap lim O := by
  unfold isRow at h ⊢
  rw [hF r h1, hF ra h2]
  exact h
/-- what Row.at answers -/
def rowAt (L : List Nat) (k : Int32) : Int32 := if 0 ≤ k ∧ k < nI L.length then nI (L.getD k.toNatClampNeg 0) else -1
def chAt (L : List Nat) (i : Nat) : Int32 := if i < L.length then nI (L.getD i 0) else -1
theorem rowAt_nI {L : List Nat} {i : Nat} (hL : L.length < 2 ^ 31) (hi : i < 2 ^ 31) : rowAt L (nI i) = chAt L i := by
  unfold rowAt chAt
  rw [nI_clamp hi]
  by_cases h : i < L.length
  · rw [if_pos h, if_pos ⟨nI_pos' hi, nI_lt h hL⟩]
  · rw [if_neg h, if_neg (fun q => nI_nlt (by omega) hi q.2)]
theorem gd_app {L : List Nat} {x i : Nat} (h : i < L.length) : (L ++ [x]).getD i 0 = L.getD i 0 := by
  simp [List.getD_eq_getElem?_getD, List.getElem?_append_left h]
theorem gd_last {L : List Nat} {x : Nat} : (L ++ [x]).getD L.length 0 = x := by
  simp [List.getD_eq_getElem?_getD]
theorem gd_take {L : List Nat} {k i : Nat} (h : i < k) : (L.take k).getD i 0 = L.getD i 0 := by
  simp [List.getD_eq_getElem?_getD, List.getElem?_take, h]
theorem upd_nI (g : Nat → Nat) (k v : Nat) : upd (fun i => nI (g i)) k (nI v) = fun i => nI (va_up g k v i) := by
  funext i
  unfold upd va_up
  split <;> rfl
theorem isRow.ob {cy : Nat → ClassId} {ad : Nat → Nat} {n : Nat} {M : Nat → va_E} {r ra cap lim : Nat} {O : List Nat} (h : isRow cy ad n M r ra cap lim O) : M r = .inr (9, [.ref (ad ra), .int (nI lim), .int (nI (min O.length lim)), .int (bI (decide (lim < O.length)))]) := by
  obtain ⟨h1, h2, h3, h4, h5, g, h6, h7, h8⟩ := h
  exact h6
theorem max0_nI {k : Nat} (h : k < 2 ^ 31) : (if nI 0 < nI k then nI k else nI 0) = nI k := by
  by_cases h0 : k = 0
  · subst h0; split <;> rfl
  · rw [if_pos (nI_lt (by omega) h)]
theorem min_nI {a b : Nat} (ha : a < 2 ^ 31) (hb : b < 2 ^ 31) : (if nI b < nI a then nI b else nI a) = nI (min a b) := by
  by_cases h : b < a
  · rw [if_pos (nI_lt h ha), Nat.min_eq_right (by omega)]
  · rw [if_neg (nI_nlt (by omega) hb), Nat.min_eq_left (by omega)]
theorem max_nI {a b : Nat} (ha : a < 2 ^ 31) (hb : b < 2 ^ 31) : (if nI a < nI b then nI b else nI a) = nI (max a b) := by
  by_cases h : a < b
  · rw [if_pos (nI_lt h hb), Nat.max_eq_right (by omega)]
  · rw [if_neg (nI_nlt (by omega) ha), Nat.max_eq_left (by omega)]
theorem clamp_lt (x : Int32) : x.toNatClampNeg < 2 ^ 31 := by
  have h := Int32.toInt_lt x
  show x.toInt.toNat < 2 ^ 31
  omega
theorem le_clamp {x : Int32} {k : Nat} (hk : k < 2 ^ 31) : x ≤ nI k ↔ x.toNatClampNeg ≤ k := by
  rw [Int32.le_iff_toInt_le, nI_toInt hk]
  show x.toInt ≤ (k : Int) ↔ x.toInt.toNat ≤ k
  omega
theorem take_gd {L : List Nat} {k : Nat} (h : k < L.length) (h5 : ∀ x ∈ L, x < 256) : L.take k ++ [lowb (nI (L.getD k 0))] = L.take (k + 1) := by
  have e : L.getD k 0 = L[k] := by simp [List.getD_eq_getElem?_getD, h]
  rw [e, lowb_nI (h5 _ (List.getElem_mem h)), List.take_succ]
  simp [h]
end
section
set_option maxHeartbeats 4000000 in
set_option maxRecDepth 100000 in
theorem kX9_size {l : Launch} {D : va_G} {cy : Nat → ClassId} {ad : Nat → Nat} {n : Nat} {A : Nat → Prop} (hI : mI ad n A) {M : Nat → va_E} {r ra cap lim : Nat} {O : List Nat} (h : isRow cy ad n M r ra cap lim O) : mMi l yX9_size (gW yX9_size cX9_size 1 (some .int)) { frames := 0, cells := 0, slots := 0, locals := 0 } D cy ad n A [.ref (ad r)] M (fun x M' => x = nI (min O.length lim) ∧ M' = M) := by
  have hne := h.ne
  obtain ⟨h1, h2, h3, h4, h5, g, h6, h7, h8⟩ := h
  refine m_entry (cc := cX9_size) (maxL := 1) (ret := (some .int)) (own := RX9) (lv := [(0, .ref (ad r))]) hI (by decide) rfl rfl (Nat.le_of_ble_eq_true rfl) rfl (fun p e s m args below meth c C hr hk => ?_)
  refine m_aload_n C dX9_size_0 rfl 0 rfl rfl ?_
  refine m_get C r h1 h6 rfl inW_X9 2 (by decide) (gW_of tm_1_54) rfl rfl dX9_size_1 rfl ?_
  exact m_iret C hr hk rfl dX9_size_4 ⟨rfl, rfl⟩
set_option maxHeartbeats 4000000 in
set_option maxRecDepth 100000 in
theorem kX9_isOver {l : Launch} {D : va_G} {cy : Nat → ClassId} {ad : Nat → Nat} {n : Nat} {A : Nat → Prop} (hI : mI ad n A) {M : Nat → va_E} {r ra cap lim : Nat} {O : List Nat} (h : isRow cy ad n M r ra cap lim O) : mMi l yX9_isOver (gW yX9_isOver cX9_isOver 1 (some .boolean)) { frames := 0, cells := 0, slots := 0, locals := 0 } D cy ad n A [.ref (ad r)] M (fun x M' => x = bI (decide (lim < O.length)) ∧ M' = M) := by
  have hne := h.ne
  obtain ⟨h1, h2, h3, h4, h5, g, h6, h7, h8⟩ := h
  refine m_entry (cc := cX9_isOver) (maxL := 1) (ret := (some .boolean)) (own := RX9) (lv := [(0, .ref (ad r))]) hI (by decide) rfl rfl (Nat.le_of_ble_eq_true rfl) rfl (fun p e s m args below meth c C hr hk => ?_)
  refine m_aload_n C dX9_isOver_0 rfl 0 rfl rfl ?_
  refine m_get C r h1 h6 rfl inW_X9 3 (by decide) (gW_of tm_1_55) rfl rfl dX9_isOver_1 rfl ?_
  exact m_iret C hr hk (nar_z _) dX9_isOver_4 ⟨rfl, rfl⟩
set_option maxHeartbeats 4000000 in
set_option maxRecDepth 100000 in
theorem kX9_clear {l : Launch} {D : va_G} {cy : Nat → ClassId} {ad : Nat → Nat} {n : Nat} {A : Nat → Prop} (hI : mI ad n A) {M : Nat → va_E} {r ra cap lim : Nat} (h : preRow cy ad n M r ra cap lim) : mMv l yX9_clear (gW yX9_clear cX9_clear 1 none) { frames := 0, cells := 0, slots := 0, locals := 0 } D cy ad n A [.ref (ad r)] M (fun M' => isRow cy ad n M' r ra cap lim [] ∧ Fr [r] M M') := by
  obtain ⟨h1, h2, h3, h4, sz, ov, g, h6, h7⟩ := h
  have hne : r ≠ ra := by
    intro q
    subst q
    rw [h6] at h7
    cases h7
  refine m_entry (cc := cX9_clear) (maxL := 1) (ret := none) (own := RX9) (lv := [(0, .ref (ad r))]) hI (by decide) rfl rfl (Nat.le_of_ble_eq_true rfl) rfl (fun p e s m args below meth c C hr hk => ?_)
  refine m_aload_n C dX9_clear_0 rfl 0 rfl rfl ?_
  refine m_iconst (v := nI 0) C dX9_clear_1 (by decide) rfl ?_
  refine m_put (ty := .int) (fs' := [.ref (ad ra), .int (nI lim), .int (nI 0), .int (bI ov)]) C r h1 h6 rfl inW_X9 tyX9 tyX9_ok nmX9 2 (by decide) (gW_of tm_1_54) rfl rfl (by decide +kernel) rfl rfl (by simp) rfl dX9_clear_2 rfl (fun M1 g_1 F_1 => ?_)
  refine m_aload_n C dX9_clear_5 rfl 0 rfl rfl ?_
  refine m_iconst (v := bI false) C dX9_clear_6 (by decide) rfl ?_
  refine m_put (ty := .boolean) (fs' := [.ref (ad ra), .int (nI lim), .int (nI 0), .int (bI false)]) C r h1 g_1 rfl inW_X9 tyX9 tyX9_ok nmX9 3 (by decide) (gW_of tm_1_55) rfl rfl (by decide +kernel) (nar_z _) (fit_z _) (by simp) rfl dX9_clear_7 rfl (fun M2 g_2 F_2 => ?_)
  refine m_vret C hr hk dX9_clear_10 ?_
  have fra_3 : M1 ra = .inl (cy 1, cap, .inl (fun i => nI (g i))) := (F_1 ra (by simp <;> omega)).trans h7
  have fra_4 : M2 ra = .inl (cy 1, cap, .inl (fun i => nI (g i))) := (F_2 ra (by simp <;> omega)).trans fra_3
  exact ⟨⟨h1, h2, h3, h4, by simp, g, by rw [g_2]; simp [nI_0, bI, nI], fra_4, by simp⟩, ((F_1.sub (by simp)).tr (F_2.sub (by simp)))⟩
set_option maxHeartbeats 4000000 in
set_option maxRecDepth 100000 in
theorem kX9_add {l : Launch} {D : va_G} {cy : Nat → ClassId} {ad : Nat → Nat} {n : Nat} {A : Nat → Prop} (hI : mI ad n A) {M : Nat → va_E} {r ra cap lim : Nat} {O : List Nat} (h : isRow cy ad n M r ra cap lim O) (v : Int32) : mMv l yX9_add (gW yX9_add cX9_add 2 none) { frames := 0, cells := 0, slots := 0, locals := 0 } D cy ad n A [.ref (ad r), .int v] M (fun M' => isRow cy ad n M' r ra cap lim (O ++ [lowb v]) ∧ Fr [r, ra] M M') := by
  have hne := h.ne
  obtain ⟨h1, h2, h3, h4, h5, g, h6, h7, h8⟩ := h
  refine m_entry (cc := cX9_add) (maxL := 2) (ret := none) (own := RX9) (lv := [(0, .ref (ad r)), (1, .int (v))]) hI (by decide) rfl rfl (Nat.le_of_ble_eq_true rfl) rfl (fun p e s m args below meth c C hr hk => ?_)
  refine m_aload_n C dX9_add_0 rfl 0 rfl rfl ?_
  refine m_get C r h1 h6 rfl inW_X9 2 (by decide) (gW_of tm_1_54) rfl rfl dX9_add_1 rfl ?_
  refine m_aload_n C dX9_add_4 rfl 0 rfl rfl ?_
  refine m_get C r h1 h6 rfl inW_X9 1 (by decide) (gW_of tm_1_53) rfl rfl dX9_add_5 rfl ?_
  refine m_icmp_ge (tgt := 38) C dX9_add_8 (by decide) rfl (fun c_8 => ?_) (fun c_8 => ?_)
  · have hge : lim ≤ O.length := by
      rcases Nat.lt_or_ge O.length lim with q | q
      · exact absurd c_8 (by rw [Nat.min_eq_left (by omega)]; exact nI_ge q (by omega))
      · exact q
    refine m_aload_n C dX9_add_38 rfl 0 rfl rfl ?_
    refine m_iconst (v := bI true) C dX9_add_39 (by decide) rfl ?_
    refine m_put (ty := .boolean) (fs' := [.ref (ad ra), .int (nI lim), .int (nI (min O.length lim)), .int (bI true)]) C r h1 h6 rfl inW_X9 tyX9 tyX9_ok nmX9 3 (by decide) (gW_of tm_1_55) rfl rfl (by decide +kernel) (nar_z _) (fit_z _) (by simp) rfl dX9_add_40 rfl (fun M1 g_1 F_1 => ?_)
    refine m_vret C hr hk dX9_add_43 ?_
    have fra_2 : M1 ra = .inl (cy 1, cap, .inl (fun i => nI (g i))) := (F_1 ra (by simp <;> omega)).trans h7
    refine ⟨⟨h1, h2, h3, h4, ?_, g, ?_, fra_2, ?_⟩, (F_1.sub (by simp))⟩
    · intro x hx
      rcases List.mem_append.mp hx with q | q
      · exact h5 x q
      · rw [List.mem_singleton.mp q]; exact lowb_lt v
    · rw [g_1, List.length_append, List.length_singleton, Nat.min_eq_right hge, Nat.min_eq_right (by omega : lim ≤ O.length + 1), decide_eq_true (by omega : lim < O.length + 1)]
    · intro i hi
      rw [List.length_append, List.length_singleton] at hi
      rw [h8 i (by omega), gd_app (by omega)]
  · have hlt : O.length < lim := by
      rcases Nat.lt_or_ge O.length lim with q | q
      · exact q
      · exact absurd (by rw [Nat.min_eq_right q]; exact nI_le (Nat.le_refl _) (by omega)) c_8
    have hm : min O.length lim = O.length := Nat.min_eq_left (by omega)
    refine m_aload_n C dX9_add_11 rfl 0 rfl rfl ?_
    refine m_get C r h1 h6 rfl inW_X9 0 (by decide) (gW_of tm_1_52) rfl rfl dX9_add_12 rfl ?_
    refine m_aload_n C dX9_add_15 rfl 0 rfl rfl ?_
    refine m_get C r h1 h6 rfl inW_X9 2 (by decide) (gW_of tm_1_54) rfl rfl dX9_add_16 rfl ?_
    refine m_iload_n C dX9_add_19 rfl 1 rfl rfl ?_
    refine m_sipush (v := nI 255) C dX9_add_20 (by decide) rfl ?_
    refine m_iand (v := nI (lowb v)) C dX9_add_23 (and255 v) rfl ?_
    refine m_iast (E' := .inl (cy 1, cap, .inl (fun i => nI (va_up g O.length (lowb v) i)))) C ra h2 h7 (vp_in_nI (by omega) (by omega)) (by rw [nI_clamp (by omega), hm, upd_nI]) dX9_add_24 rfl (fun M3 g_3 F_3 => ?_)
    refine m_aload_n C dX9_add_25 rfl 0 rfl rfl ?_
    refine m_dup C dX9_add_26 rfl rfl ?_
    have fr_4 : M3 r = .inr (9, [.ref (ad ra), .int (nI lim), .int (nI (min O.length lim)), .int (bI (decide (lim < O.length)))]) := (F_3 r (by simp <;> omega)).trans h6
    refine m_get C r h1 fr_4 rfl inW_X9 2 (by decide) (gW_of tm_1_54) rfl rfl dX9_add_27 rfl ?_
    refine m_iconst (v := nI 1) C dX9_add_30 (by decide) rfl ?_
    refine m_iadd (v := nI ((min O.length lim) + 1)) C dX9_add_31 (nI_add _ _) rfl ?_
    refine m_put (ty := .int) (fs' := [.ref (ad ra), .int (nI lim), .int (nI ((min O.length lim) + 1)), .int (bI (decide (lim < O.length)))]) C r h1 fr_4 rfl inW_X9 tyX9 tyX9_ok nmX9 2 (by decide) (gW_of tm_1_54) rfl rfl (by decide +kernel) rfl rfl (by simp) rfl dX9_add_32 rfl (fun M5 g_5 F_5 => ?_)
    refine m_goto (tgt := 43) C dX9_add_35 (by decide) ?_
    refine m_vret C hr hk dX9_add_43 ?_
    have fra_6 : M5 ra = .inl (cy 1, cap, .inl (fun i => nI (va_up g O.length (lowb v) i))) := (F_5 ra (by simp <;> omega)).trans g_3
    refine ⟨⟨h1, h2, h3, h4, ?_, va_up g O.length (lowb v), ?_, fra_6, ?_⟩, ((F_3.sub (by simp)).tr (F_5.sub (by simp)))⟩
    · intro x hx
      rcases List.mem_append.mp hx with q | q
      · exact h5 x q
      · rw [List.mem_singleton.mp q]; exact lowb_lt v
    · rw [g_5, hm, List.length_append, List.length_singleton, Nat.min_eq_left (by omega : O.length + 1 ≤ lim), decide_eq_false (by omega : ¬ lim < O.length), decide_eq_false (by omega : ¬ lim < O.length + 1)]
    · intro i hi
      rw [List.length_append, List.length_singleton] at hi
      unfold va_up
      by_cases q : i = O.length
      · rw [if_pos q, q, gd_last]
      · rw [if_neg q, h8 i (by omega), gd_app (by omega)]
set_option maxHeartbeats 4000000 in
set_option maxRecDepth 100000 in
theorem kX9_at {l : Launch} {D : va_G} {cy : Nat → ClassId} {ad : Nat → Nat} {n : Nat} {A : Nat → Prop} (hI : mI ad n A) {M : Nat → va_E} {r ra cap lim : Nat} {O : List Nat} (h : isRow cy ad n M r ra cap lim O) (k : Int32) : mMi l yX9_at (gW yX9_at cX9_at 2 (some .int)) { frames := 0, cells := 0, slots := 0, locals := 0 } D cy ad n A [.ref (ad r), .int k] M (fun x M' => x = rowAt (O.take lim) k ∧ M' = M) := by
  have hne := h.ne
  obtain ⟨h1, h2, h3, h4, h5, g, h6, h7, h8⟩ := h
  refine m_entry (cc := cX9_at) (maxL := 2) (ret := (some .int)) (own := RX9) (lv := [(0, .ref (ad r)), (1, .int (k))]) hI (by decide) rfl rfl (Nat.le_of_ble_eq_true rfl) rfl (fun p e s m args below meth c C hr hk => ?_)
  refine m_iload_n C dX9_at_0 rfl 1 rfl rfl ?_
  refine m_if_lt (tgt := 21) C dX9_at_1 (by decide) rfl (fun c_1 => ?_) (fun c_1 => ?_)
  · refine m_iconst (v := (-1)) C dX9_at_21 (by decide) rfl ?_
    refine m_iret C hr hk rfl dX9_at_22 ?_
    refine ⟨?_, rfl⟩
    unfold rowAt
    rw [if_neg (fun q => absurd c_1 (Int32.not_lt.mpr q.1))]
  · refine m_iload_n C dX9_at_4 rfl 1 rfl rfl ?_
    refine m_aload_n C dX9_at_5 rfl 0 rfl rfl ?_
    refine m_get C r h1 h6 rfl inW_X9 2 (by decide) (gW_of tm_1_54) rfl rfl dX9_at_6 rfl ?_
    refine m_icmp_ge (tgt := 21) C dX9_at_9 (by decide) rfl (fun c_9 => ?_) (fun c_9 => ?_)
    · refine m_iconst (v := (-1)) C dX9_at_21 (by decide) rfl ?_
      refine m_iret C hr hk rfl dX9_at_22 ?_
      refine ⟨?_, rfl⟩
      unfold rowAt
      rw [List.length_take, Nat.min_comm, if_neg (fun q => absurd q.2 (Int32.not_lt.mpr c_9))]
    · have hk0 : 0 ≤ k := Int32.not_lt.mp c_1
      have hk1 : k < nI (min O.length lim) := Int32.not_le.mp c_9
      obtain ⟨j, hj, hkj⟩ := nI_of (fun q => c_1 q)
      have hj2 : j < min O.length lim := (nI_ltI hj (by omega)).mp (hkj ▸ hk1)
      have hin : vp_in k cap := by rw [hkj]; exact vp_in_nI (by omega) (by omega)
      have hlt : k.toNatClampNeg < min O.length lim := by rw [hkj, nI_clamp hj]; exact hj2
      refine m_aload_n C dX9_at_12 rfl 0 rfl rfl ?_
      refine m_get C r h1 h6 rfl inW_X9 0 (by decide) (gW_of tm_1_52) rfl rfl dX9_at_13 rfl ?_
      refine m_iload_n C dX9_at_16 rfl 1 rfl rfl ?_
      refine m_iald (v := nI (O.getD k.toNatClampNeg 0)) C ra h2 h7 hin (by rw [h8 _ hlt]) dX9_at_17 rfl ?_
      refine m_goto (tgt := 22) C dX9_at_18 (by decide) ?_
      refine m_iret C hr hk rfl dX9_at_22 ?_
      refine ⟨?_, rfl⟩
      unfold rowAt
      rw [List.length_take, Nat.min_comm, if_pos ⟨hk0, hk1⟩, gd_take (by omega)]
set_option maxHeartbeats 4000000 in
set_option maxRecDepth 100000 in
theorem kX9_limitTo {l : Launch} {D : va_G} {cy : Nat → ClassId} {ad : Nat → Nat} {n : Nat} {A : Nat → Prop} (hI : mI ad n A) {M : Nat → va_E} {r ra cap lim : Nat} (h : preRow cy ad n M r ra cap lim) {k : Nat} (hkc : k ≤ cap) : mMv l yX9_limitTo (gW yX9_limitTo cX9_limitTo 2 none) { frames := 1, cells := 0, slots := 0, locals := 23 } D cy ad n A [.ref (ad r), .int (nI k)] M (fun M' => preRow cy ad n M' r ra cap k ∧ Fr [r] M M') := by
  obtain ⟨h1, h2, h3, h4, sz, ov, g, h6, h7⟩ := h
  have hne : r ≠ ra := by
    intro q
    subst q
    rw [h6] at h7
    cases h7
  refine m_entry (cc := cX9_limitTo) (maxL := 2) (ret := none) (own := RX9) (lv := [(0, .ref (ad r)), (1, .int (nI k))]) hI (by decide) rfl rfl (Nat.le_of_ble_eq_true rfl) rfl (fun p e s m args below meth c C hr hk => ?_)
  refine m_aload_n C dX9_limitTo_0 rfl 0 rfl rfl ?_
  refine m_iconst (v := nI 0) C dX9_limitTo_1 (by decide) rfl ?_
  refine m_iload_n C dX9_limitTo_2 rfl 1 rfl rfl ?_
  refine m_aload_n C dX9_limitTo_3 rfl 0 rfl rfl ?_
  refine m_get C r h1 h6 rfl inW_X9 0 (by decide) (gW_of tm_1_52) rfl rfl dX9_limitTo_4 rfl ?_
  refine m_alen (v := nI cap) C 1 ra h2 h7 rfl rfl dX9_limitTo_7 rfl ?_
  refine m_mmin (v := nI k) C (gW_of tm_3_84) (gW_of tm_3_85) (gW_of tm_1_19) (gW_of tm_3_86) (by decide) (Nat.le_of_ble_eq_true rfl) ⟨by decide, by decide⟩ (if_neg (nI_nlt hkc (by omega))) dX9_limitTo_8 rfl ?_
  refine m_mmax (v := nI k) C (gW_of tm_3_87) (gW_of tm_3_65) (gW_of tm_1_19) (gW_of tm_3_66) (by decide) (Nat.le_of_ble_eq_true rfl) ⟨by decide, by decide⟩ (max0_nI (by omega)) dX9_limitTo_11 rfl ?_
  refine m_put (ty := .int) (fs' := [.ref (ad ra), .int (nI k), .int (sz), .int (bI ov)]) C r h1 h6 rfl inW_X9 tyX9 tyX9_ok nmX9 1 (by decide) (gW_of tm_1_53) rfl rfl (by decide +kernel) rfl rfl (by simp) rfl dX9_limitTo_14 rfl (fun M1 g_1 F_1 => ?_)
  refine m_vret C hr hk dX9_limitTo_17 ?_
  have fra_2 : M1 ra = .inl (cy 1, cap, .inl (fun i => nI (g i))) := (F_1 ra (by simp <;> omega)).trans h7
  exact ⟨⟨h1, h2, hkc, h4, sz, ov, g, g_1, fra_2⟩, (F_1.sub (by simp))⟩
set_option maxHeartbeats 4000000 in
set_option maxRecDepth 100000 in
theorem kX9_change {l : Launch} {D : va_G} {cy : Nat → ClassId} {ad : Nat → Nat} {n : Nat} {A : Nat → Prop} (hI : mI ad n A) {M : Nat → va_E} {r ra cap lim : Nat} {O : List Nat} (h : isRow cy ad n M r ra cap lim O) {k : Nat} (hk1 : k < O.length) (hk2 : k < lim) (v : Int32) : mMv l yX9_change (gW yX9_change cX9_change 3 none) { frames := 0, cells := 0, slots := 0, locals := 0 } D cy ad n A [.ref (ad r), .int (nI k), .int v] M (fun M' => isRow cy ad n M' r ra cap lim (O.set k (lowb v)) ∧ Fr [r, ra] M M') := by
  have hne := h.ne
  obtain ⟨h1, h2, h3, h4, h5, g, h6, h7, h8⟩ := h
  refine m_entry (cc := cX9_change) (maxL := 3) (ret := none) (own := RX9) (lv := [(0, .ref (ad r)), (1, .int (nI k)), (2, .int (v))]) hI (by decide) rfl rfl (Nat.le_of_ble_eq_true rfl) rfl (fun p e s m args below meth c C hr hk => ?_)
  refine m_iload_n C dX9_change_0 rfl 1 rfl rfl ?_
  refine m_if_lt (tgt := 23) C dX9_change_1 (by decide) rfl (fun c_1 => ?_) (fun c_1 => ?_)
  · exact absurd c_1 (nI_pos (by omega))
  · refine m_iload_n C dX9_change_4 rfl 1 rfl rfl ?_
    refine m_aload_n C dX9_change_5 rfl 0 rfl rfl ?_
    refine m_get C r h1 h6 rfl inW_X9 2 (by decide) (gW_of tm_1_54) rfl rfl dX9_change_6 rfl ?_
    refine m_icmp_ge (tgt := 23) C dX9_change_9 (by decide) rfl (fun c_9 => ?_) (fun c_9 => ?_)
    · exact absurd c_9 (nI_ge (by omega) (by omega))
    · refine m_aload_n C dX9_change_12 rfl 0 rfl rfl ?_
      refine m_get C r h1 h6 rfl inW_X9 0 (by decide) (gW_of tm_1_52) rfl rfl dX9_change_13 rfl ?_
      refine m_iload_n C dX9_change_16 rfl 1 rfl rfl ?_
      refine m_iload_n C dX9_change_17 rfl 2 rfl rfl ?_
      refine m_sipush (v := nI 255) C dX9_change_18 (by decide) rfl ?_
      refine m_iand (v := nI (lowb v)) C dX9_change_21 (and255 v) rfl ?_
      refine m_iast (E' := .inl (cy 1, cap, .inl (fun i => nI (va_up g k (lowb v) i)))) C ra h2 h7 (vp_in_nI (by omega) (by omega)) (by rw [nI_clamp (by omega), upd_nI]) dX9_change_22 rfl (fun M1 g_1 F_1 => ?_)
      refine m_vret C hr hk dX9_change_23 ?_
      have fr_2 : M1 r = .inr (9, [.ref (ad ra), .int (nI lim), .int (nI (min O.length lim)), .int (bI (decide (lim < O.length)))]) := (F_1 r (by simp <;> omega)).trans h6
      refine ⟨⟨h1, h2, h3, h4, ?_, va_up g k (lowb v), ?_, g_1, ?_⟩, (F_1.sub (by simp))⟩
      · intro x hx
        rcases List.mem_or_eq_of_mem_set hx with q | q
        · exact h5 x q
        · rw [q]; exact lowb_lt v
      · rw [fr_2, List.length_set]
      · intro i hi
        rw [List.length_set] at hi
        unfold va_up
        rw [List.getD_eq_getElem?_getD, List.getElem?_set]
        by_cases q : i = k
        · rw [if_pos q, if_pos q.symm, if_pos (by omega)]; rfl
        · rw [if_neg q, if_neg (fun z => q z.symm), h8 i hi, List.getD_eq_getElem?_getD]
set_option maxHeartbeats 4000000 in
set_option maxRecDepth 100000 in
theorem kX9_keepFirst {l : Launch} {D : va_G} {cy : Nat → ClassId} {ad : Nat → Nat} {n : Nat} {A : Nat → Prop} (hI : mI ad n A) {M : Nat → va_E} {r ra cap lim : Nat} {O : List Nat} (h : isRow cy ad n M r ra cap lim O) (hO : O.length ≤ lim) {k : Nat} (hk1 : k < 2 ^ 31) : mMi l yX9_keepFirst (gW yX9_keepFirst cX9_keepFirst 4 (some .int)) { frames := 1, cells := 0, slots := 0, locals := 23 } D cy ad n A [.ref (ad r), .int (nI k)] M (fun x M' => x = nI (O.length - min k O.length) ∧ isRow cy ad n M' r ra cap lim (O.take k) ∧ Fr [r] M M') := by
  have hne := h.ne
  obtain ⟨h1, h2, h3, h4, h5, g, h6, h7, h8⟩ := h
  have hm : min O.length lim = O.length := Nat.min_eq_left hO
  refine m_entry (cc := cX9_keepFirst) (maxL := 4) (ret := (some .int)) (own := RX9) (lv := [(0, .ref (ad r)), (1, .int (nI k))]) hI (by decide) rfl rfl (Nat.le_of_ble_eq_true rfl) rfl (fun p e s m args below meth c C hr hk => ?_)
  refine m_iconst (v := nI 0) C dX9_keepFirst_0 (by decide) rfl ?_
  refine m_iload_n C dX9_keepFirst_1 rfl 1 rfl rfl ?_
  refine m_aload_n C dX9_keepFirst_2 rfl 0 rfl rfl ?_
  refine m_get C r h1 h6 rfl inW_X9 2 (by decide) (gW_of tm_1_54) rfl rfl dX9_keepFirst_3 rfl ?_
  refine m_mmin (v := nI (min k O.length)) C (gW_of tm_3_84) (gW_of tm_3_85) (gW_of tm_1_19) (gW_of tm_3_86) (by decide) (Nat.le_of_ble_eq_true rfl) ⟨by decide, by decide⟩ (by rw [hm]; exact min_nI hk1 (by omega)) dX9_keepFirst_6 rfl ?_
  refine m_mmax (v := nI (min k O.length)) C (gW_of tm_3_87) (gW_of tm_3_65) (gW_of tm_1_19) (gW_of tm_3_66) (by decide) (Nat.le_of_ble_eq_true rfl) ⟨by decide, by decide⟩ (max0_nI (by omega)) dX9_keepFirst_9 rfl ?_
  refine m_istore_n (lv' := [(2, .int (nI (min k O.length))), (0, .ref (ad r)), (1, .int (nI k))]) C dX9_keepFirst_12 rfl (by decide) rfl rfl ?_
  refine m_aload_n C dX9_keepFirst_13 rfl 1 rfl rfl ?_
  refine m_get C r h1 h6 rfl inW_X9 2 (by decide) (gW_of tm_1_54) rfl rfl dX9_keepFirst_14 rfl ?_
  refine m_iload_n C dX9_keepFirst_17 rfl 0 rfl rfl ?_
  refine m_isub (v := nI (O.length - min k O.length)) C dX9_keepFirst_18 (by rw [hm]; exact pk_sub (Nat.min_le_right _ _)) rfl ?_
  refine m_istore_n (lv' := [(3, .int (nI (O.length - min k O.length))), (2, .int (nI (min k O.length))), (0, .ref (ad r)), (1, .int (nI k))]) C dX9_keepFirst_19 rfl (by decide) rfl rfl ?_
  refine m_aload_n C dX9_keepFirst_20 rfl 2 rfl rfl ?_
  refine m_iload_n C dX9_keepFirst_21 rfl 1 rfl rfl ?_
  refine m_put (ty := .int) (fs' := [.ref (ad ra), .int (nI lim), .int (nI (min k O.length)), .int (bI (decide (lim < O.length)))]) C r h1 h6 rfl inW_X9 tyX9 tyX9_ok nmX9 2 (by decide) (gW_of tm_1_54) rfl rfl (by decide +kernel) rfl rfl (by simp) rfl dX9_keepFirst_22 rfl (fun M1 g_1 F_1 => ?_)
  refine m_iload_n C dX9_keepFirst_25 rfl 0 rfl rfl ?_
  refine m_iret C hr hk rfl dX9_keepFirst_26 ?_
  have fra_2 : M1 ra = .inl (cy 1, cap, .inl (fun i => nI (g i))) := (F_1 ra (by simp <;> omega)).trans h7
  refine ⟨rfl, ⟨h1, h2, h3, h4, fun x hx => h5 x (List.mem_of_mem_take hx), g, ?_, fra_2, ?_⟩, (F_1.sub (by simp))⟩
  · rw [g_1, List.length_take, Nat.min_eq_left (by omega : min k O.length ≤ lim), decide_eq_false (by omega : ¬ lim < O.length), decide_eq_false (by omega : ¬ lim < min k O.length)]
  · intro i hi
    rw [List.length_take] at hi
    rw [h8 i (by omega), gd_take (by omega)]
set_option maxHeartbeats 4000000 in
set_option maxRecDepth 100000 in
theorem kX9_addMany {l : Launch} {D : va_G} {cy : Nat → ClassId} {ad : Nat → Nat} {n : Nat} {A : Nat → Prop} (hI : mI ad n A) {M : Nat → va_E} {r ra cap lim : Nat} {O : List Nat} (h : isRow cy ad n M r ra cap lim O) (v q : Int32) : mMv l yX9_addMany (gW yX9_addMany cX9_addMany 4 none) { frames := 1, cells := 0, slots := 0, locals := 21 } D cy ad n A [.ref (ad r), .int v, .int q] M (fun M' => isRow cy ad n M' r ra cap lim (O ++ List.replicate q.toNatClampNeg (lowb v)) ∧ Fr [r, ra] M M') := by
  have hne := h.ne
  refine m_entry (cc := cX9_addMany) (maxL := 4) (ret := none) (own := RX9) (lv := [(0, .ref (ad r)), (1, .int (v)), (2, .int (q))]) hI (by decide) rfl rfl (Nat.le_of_ble_eq_true rfl) rfl (fun p e s m args below meth c C hr hk => ?_)
  refine m_iconst (v := nI 0) C dX9_addMany_0 (by decide) rfl ?_
  refine m_istore_n (lv' := [(3, .int (nI 0)), (0, .ref (ad r)), (1, .int (v)), (2, .int (q))]) C dX9_addMany_1 rfl (by decide) rfl rfl ?_
  refine m_lv [0, 1, 2, 3] rfl ?_
  refine m_loop (σ := Nat × (Nat → va_E)) (fun a => a.2) (fun a => [(3, .int (nI a.1)), (0, .ref (ad r)), (1, .int (v)), (2, .int (q))]) (fun a => a.1 ≤ q.toNatClampNeg ∧ isRow cy ad n a.2 r ra cap lim (O ++ List.replicate a.1 (lowb v)) ∧ Fr [r, ra] M a.2) (fun a => q.toNatClampNeg - a.1) (0, M) (⟨Nat.zero_le _, by simpa using h, Fr.rf⟩) ?_
  rintro ⟨k, Mk⟩ hinv ih
  dsimp only at hinv ih ⊢
  obtain ⟨hkq, hR, hF0⟩ := hinv
  have hq := clamp_lt q
  refine m_iload_n C dX9_addMany_2 rfl 0 rfl rfl ?_
  refine m_iload_n C dX9_addMany_3 rfl 3 rfl rfl ?_
  refine m_icmp_ge (tgt := 18) C dX9_addMany_4 (by decide) rfl (fun c_4 => ?_) (fun c_4 => ?_)
  · have hge : q.toNatClampNeg ≤ k := (le_clamp (by omega)).mp c_4
    refine m_vret C hr hk dX9_addMany_18 ?_
    have hkk : k = q.toNatClampNeg := by omega
    subst hkk
    exact ⟨hR, hF0⟩
  · have hlt : k < q.toNatClampNeg := by
      rcases Nat.lt_or_ge k q.toNatClampNeg with z | z
      · exact z
      · exact absurd ((le_clamp (by omega)).mpr z) c_4
    refine m_aload_n C dX9_addMany_7 rfl 1 rfl rfl ?_
    refine m_iload_n C dX9_addMany_8 rfl 2 rfl rfl ?_
    refine m_callVv (As := [.int (v)]) (rest := []) C (kX9_add hI hR v) (cwV 1 C.1.2.2.2.2 (goodV tm_3_44 tm_2_211 tm_2_212 tm_1_3 tm_2_213) rfl rfl rfl (by decide +kernel) ⟨by decide, by decide⟩) hR.1 hR.ob rfl rfl rfl (Nat.le_of_ble_eq_true rfl) dX9_addMany_9 rfl ⟨by decide, by decide⟩ (fun M1 q_1 => ?_)
    obtain ⟨R_1, F_1⟩ := q_1
    refine m_iinc (v := nI (k + 1)) (lv' := [(3, .int (nI (k + 1))), (0, .ref (ad r)), (1, .int (v)), (2, .int (q))]) C dX9_addMany_12 (k := 0) rfl (nI_add _ _) (by decide) rfl rfl ?_
    refine m_goto (tgt := 2) C dX9_addMany_15 (by decide) ?_
    refine m_lv [0, 1, 2, 3] rfl ?_
    exact ih (k + 1, M1) (⟨hlt, by rw [List.replicate_succ', ← List.append_assoc]; exact R_1, hF0.tr (F_1.sub (by simp))⟩) (by simp only; omega)
set_option maxHeartbeats 4000000 in
set_option maxRecDepth 100000 in
theorem kX9_copyOf {l : Launch} {D : va_G} {cy : Nat → ClassId} {ad : Nat → Nat} {n : Nat} {A : Nat → Prop} (hI : mI ad n A) {M : Nat → va_E} {r ra cap lim : Nat} {O : List Nat} (h : isRow cy ad n M r ra cap lim O) {o oa pcap plim : Nat} {P : List Nat} (hp : isRow cy ad n M o oa pcap plim P) (hd : o ≠ r ∧ o ≠ ra ∧ oa ≠ r ∧ oa ≠ ra) : mMv l yX9_copyOf (gW yX9_copyOf cX9_copyOf 3 none) { frames := 1, cells := 0, slots := 0, locals := 21 } D cy ad n A [.ref (ad r), .ref (ad o)] M (fun M' => isRow cy ad n M' r ra cap lim (P.take plim) ∧ Fr [r, ra] M M') := by
  have hne := h.ne
  have hlp : (P.take plim).length ≤ 2000 := by
    rw [List.length_take]
    have := hp.2.2.1
    have := hp.2.2.2.1
    omega
  have h255 : ∀ x ∈ P.take plim, x < 256 := fun x hx => hp.2.2.2.2.1 x (List.mem_of_mem_take hx)
  refine m_entry (cc := cX9_copyOf) (maxL := 3) (ret := none) (own := RX9) (lv := [(0, .ref (ad r)), (1, .ref (ad o))]) hI (by decide) rfl rfl (Nat.le_of_ble_eq_true rfl) rfl (fun p e s m args below meth c C hr hk => ?_)
  refine m_aload_n C dX9_copyOf_0 rfl 0 rfl rfl ?_
  refine m_callVv (As := []) (rest := []) C (kX9_clear hI h.pre) (cwV 0 C.1.2.2.2.2 (goodV tm_3_53 tm_2_99 tm_2_100 tm_1_3 tm_2_101) rfl rfl rfl (by decide +kernel) ⟨by decide, by decide⟩) h.1 h.ob rfl rfl rfl (Nat.le_of_ble_eq_true rfl) dX9_copyOf_1 rfl ⟨by decide, by decide⟩ (fun M1 q_1 => ?_)
  obtain ⟨R_1, F_1⟩ := q_1
  refine m_iconst (v := nI 0) C dX9_copyOf_4 (by decide) rfl ?_
  refine m_istore_n (lv' := [(2, .int (nI 0)), (0, .ref (ad r)), (1, .ref (ad o))]) C dX9_copyOf_5 rfl (by decide) rfl rfl ?_
  refine m_lv [0, 1, 2] rfl ?_
  refine m_loop (σ := Nat × (Nat → va_E)) (fun a => a.2) (fun a => [(2, .int (nI a.1)), (0, .ref (ad r)), (1, .ref (ad o))]) (fun a => a.1 ≤ (P.take plim).length ∧ isRow cy ad n a.2 r ra cap lim ((P.take plim).take a.1) ∧ Fr [r, ra] M a.2) (fun a => (P.take plim).length - a.1) (0, M1) (⟨Nat.zero_le _, R_1, (F_1.sub (by simp))⟩) ?_
  rintro ⟨k, Mk⟩ hinv ih
  dsimp only at hinv ih ⊢
  obtain ⟨hkq, hR, hF0⟩ := hinv
  refine m_iload_n C dX9_copyOf_6 rfl 0 rfl rfl ?_
  refine m_aload_n C dX9_copyOf_7 rfl 2 rfl rfl ?_
  have Ro_2 := hp.fr hF0 (by simp <;> omega) (by simp <;> omega)
  refine m_callVi (As := []) (rest := [.int (nI k)]) C (kX9_size hI Ro_2) (cwV 0 C.1.2.2.2.2 (goodV tm_3_54 tm_2_95 tm_2_96 tm_1_3 tm_2_97) rfl rfl rfl (by decide +kernel) ⟨by decide, by decide⟩) Ro_2.1 Ro_2.ob rfl rfl rfl (Nat.le_of_ble_eq_true rfl) dX9_copyOf_8 rfl ⟨by decide, by decide⟩ (fun x_3 N_3 q_3 => ?_)
  obtain ⟨e_3, E_3⟩ := q_3
  subst E_3
  replace e_3 : x_3 = nI (P.take plim).length := e_3.trans (by rw [List.length_take, Nat.min_comm])
  subst e_3
  refine m_icmp_ge (tgt := 29) C dX9_copyOf_11 (by decide) rfl (fun c_11 => ?_) (fun c_11 => ?_)
  · have hge : (P.take plim).length ≤ k := by
      rcases Nat.lt_or_ge k (P.take plim).length with z | z
      · exact absurd c_11 (nI_ge z (by omega))
      · exact z
    refine m_vret C hr hk dX9_copyOf_29 ?_
    have hkk : (P.take plim).take k = P.take plim := List.take_of_length_le hge
    rw [hkk] at hR
    exact ⟨hR, hF0⟩
  · have hlt : k < (P.take plim).length := by
      rcases Nat.lt_or_ge k (P.take plim).length with z | z
      · exact z
      · exact absurd (nI_le z (by omega)) c_11
    refine m_aload_n C dX9_copyOf_14 rfl 1 rfl rfl ?_
    refine m_aload_n C dX9_copyOf_15 rfl 2 rfl rfl ?_
    refine m_iload_n C dX9_copyOf_16 rfl 0 rfl rfl ?_
    refine m_callVi (As := [.int (nI k)]) (rest := [.ref (ad r)]) C (kX9_at hI Ro_2 (nI k)) (cwV 1 C.1.2.2.2.2 (goodV tm_3_55 tm_2_128 tm_2_129 tm_1_3 tm_2_130) rfl rfl rfl (by decide +kernel) ⟨by decide, by decide⟩) Ro_2.1 Ro_2.ob rfl rfl rfl (Nat.le_of_ble_eq_true rfl) dX9_copyOf_17 rfl ⟨by decide, by decide⟩ (fun x_4 N_4 q_4 => ?_)
    obtain ⟨e_4, E_4⟩ := q_4
    subst E_4
    replace e_4 : x_4 = nI ((P.take plim).getD k 0) := e_4.trans (by rw [rowAt_nI (by omega) (by omega)]; unfold chAt; rw [if_pos hlt])
    subst e_4
    refine m_callVv (As := [.int (nI ((P.take plim).getD k 0))]) (rest := []) C (kX9_add hI hR (nI ((P.take plim).getD k 0))) (cwV 1 C.1.2.2.2.2 (goodV tm_3_44 tm_2_211 tm_2_212 tm_1_3 tm_2_213) rfl rfl rfl (by decide +kernel) ⟨by decide, by decide⟩) hR.1 hR.ob rfl rfl rfl (Nat.le_of_ble_eq_true rfl) dX9_copyOf_20 rfl ⟨by decide, by decide⟩ (fun M5 q_5 => ?_)
    obtain ⟨R_5, F_5⟩ := q_5
    rw [take_gd hlt h255] at R_5
    refine m_iinc (v := nI (k + 1)) (lv' := [(2, .int (nI (k + 1))), (0, .ref (ad r)), (1, .ref (ad o))]) C dX9_copyOf_23 (k := 0) rfl (nI_add _ _) (by decide) rfl rfl ?_
    refine m_goto (tgt := 6) C dX9_copyOf_26 (by decide) ?_
    refine m_lv [0, 1, 2] rfl ?_
    exact ih (k + 1, M5) (⟨hlt, R_5, ((hF0.sub (by simp)).tr (F_5.sub (by simp)))⟩) (by simp only; omega)
end
