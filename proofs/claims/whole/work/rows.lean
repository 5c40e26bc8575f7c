section
-- ===== PART A: goes FIRST, ahead of the names: the tables' words, and 'selects' of the private methods out of them =====
/-- a private method of a class that the tables say can be made, by its rows of tables_1 -/
def lw_okq (q : MethodName × Nat) : Prop := (q.1.cls ≠ "java/lang/invoke/MethodHandle" ∧ q.1.cls ≠ "java/lang/invoke/VarHandle") ∧ Cond.instantiable q.1.cls q.2 ∈ tables_1 ∧ Cond.privateMethod q.1 ∈ tables_1 ∧ Cond.instanceMethod q.1 ∈ tables_1
theorem lw_p0 : lw_okq (⟨"java/lang/Throwable", "fillInStackTrace", "(I)Ljava/lang/Throwable;"⟩, 6) := ⟨⟨by decide +kernel, by decide +kernel⟩, List.mem_of_getElem? (i := 249) (by decide +kernel), List.mem_of_getElem? (i := 247) (by decide +kernel), List.mem_of_getElem? (i := 248) (by decide +kernel)⟩
theorem lw_p1 : lw_okq (⟨"FormatDesk", "forgetLatestRun", "()V"⟩, 10) := ⟨⟨by decide +kernel, by decide +kernel⟩, List.mem_of_getElem? (i := 22) (by decide +kernel), List.mem_of_getElem? (i := 294) (by decide +kernel), List.mem_of_getElem? (i := 295) (by decide +kernel)⟩
theorem lw_p2 : lw_okq (⟨"FormatDesk", "placeOfWrong", "()I"⟩, 10) := ⟨⟨by decide +kernel, by decide +kernel⟩, List.mem_of_getElem? (i := 22) (by decide +kernel), List.mem_of_getElem? (i := 298) (by decide +kernel), List.mem_of_getElem? (i := 299) (by decide +kernel)⟩
theorem lw_p3 : lw_okq (⟨"FormatDesk$Directive", "forget", "()V"⟩, 12) := ⟨⟨by decide +kernel, by decide +kernel⟩, List.mem_of_getElem? (i := 46) (by decide +kernel), List.mem_of_getElem? (i := 318) (by decide +kernel), List.mem_of_getElem? (i := 319) (by decide +kernel)⟩
theorem lw_p4 : lw_okq (⟨"FormatDesk$Directive", "readFlags", "(LFormatDesk$Format;)V"⟩, 12) := ⟨⟨by decide +kernel, by decide +kernel⟩, List.mem_of_getElem? (i := 46) (by decide +kernel), List.mem_of_getElem? (i := 322) (by decide +kernel), List.mem_of_getElem? (i := 323) (by decide +kernel)⟩
theorem lw_p5 : lw_okq (⟨"FormatDesk$Directive", "readWidth", "(LFormatDesk$Format;)Z"⟩, 12) := ⟨⟨by decide +kernel, by decide +kernel⟩, List.mem_of_getElem? (i := 46) (by decide +kernel), List.mem_of_getElem? (i := 327) (by decide +kernel), List.mem_of_getElem? (i := 328) (by decide +kernel)⟩
theorem lw_p6 : lw_okq (⟨"FormatDesk$Directive", "readIf", "(LFormatDesk$Format;I)Z"⟩, 12) := ⟨⟨by decide +kernel, by decide +kernel⟩, List.mem_of_getElem? (i := 46) (by decide +kernel), List.mem_of_getElem? (i := 331) (by decide +kernel), List.mem_of_getElem? (i := 332) (by decide +kernel)⟩
theorem lw_p7 : lw_okq (⟨"FormatDesk$Directive", "readDigits", "(LFormatDesk$Format;)I"⟩, 12) := ⟨⟨by decide +kernel, by decide +kernel⟩, List.mem_of_getElem? (i := 46) (by decide +kernel), List.mem_of_getElem? (i := 335) (by decide +kernel), List.mem_of_getElem? (i := 336) (by decide +kernel)⟩
theorem lw_p8 : lw_okq (⟨"FormatDesk$Directive", "readPrecision", "(LFormatDesk$Format;)Z"⟩, 12) := ⟨⟨by decide +kernel, by decide +kernel⟩, List.mem_of_getElem? (i := 46) (by decide +kernel), List.mem_of_getElem? (i := 342) (by decide +kernel), List.mem_of_getElem? (i := 343) (by decide +kernel)⟩
theorem lw_p9 : lw_okq (⟨"FormatDesk$Directive", "readKind", "(LFormatDesk$Format;)Z"⟩, 12) := ⟨⟨by decide +kernel, by decide +kernel⟩, List.mem_of_getElem? (i := 46) (by decide +kernel), List.mem_of_getElem? (i := 346) (by decide +kernel), List.mem_of_getElem? (i := 347) (by decide +kernel)⟩
theorem lw_p10 : lw_okq (⟨"FormatDesk", "putOutAll", "()Z"⟩, 10) := ⟨⟨by decide +kernel, by decide +kernel⟩, List.mem_of_getElem? (i := 22) (by decide +kernel), List.mem_of_getElem? (i := 453) (by decide +kernel), List.mem_of_getElem? (i := 454) (by decide +kernel)⟩
theorem lw_p11 : lw_okq (⟨"FormatDesk", "takeStars", "()V"⟩, 10) := ⟨⟨by decide +kernel, by decide +kernel⟩, List.mem_of_getElem? (i := 22) (by decide +kernel), List.mem_of_getElem? (i := 457) (by decide +kernel), List.mem_of_getElem? (i := 458) (by decide +kernel)⟩
theorem lw_p12 : lw_okq (⟨"FormatDesk", "takeForStar", "()I"⟩, 10) := ⟨⟨by decide +kernel, by decide +kernel⟩, List.mem_of_getElem? (i := 22) (by decide +kernel), List.mem_of_getElem? (i := 461) (by decide +kernel), List.mem_of_getElem? (i := 462) (by decide +kernel)⟩
theorem lw_p13 : lw_okq (⟨"FormatDesk", "take", "()J"⟩, 10) := ⟨⟨by decide +kernel, by decide +kernel⟩, List.mem_of_getElem? (i := 22) (by decide +kernel), List.mem_of_getElem? (i := 467) (by decide +kernel), List.mem_of_getElem? (i := 468) (by decide +kernel)⟩
theorem lw_p14 : lw_okq (⟨"FormatDesk$Writer", "writeLetter", "(J)V"⟩, 2) := ⟨⟨by decide +kernel, by decide +kernel⟩, List.mem_of_getElem? (i := 103) (by decide +kernel), List.mem_of_getElem? (i := 497) (by decide +kernel), List.mem_of_getElem? (i := 498) (by decide +kernel)⟩
theorem lw_p15 : lw_okq (⟨"FormatDesk$Writer", "writeSigned", "(JLFormatDesk$Directive;)V"⟩, 2) := ⟨⟨by decide +kernel, by decide +kernel⟩, List.mem_of_getElem? (i := 103) (by decide +kernel), List.mem_of_getElem? (i := 503) (by decide +kernel), List.mem_of_getElem? (i := 504) (by decide +kernel)⟩
def lw_privs_1 : List (MethodName × Nat) := [(⟨"java/lang/Throwable", "fillInStackTrace", "(I)Ljava/lang/Throwable;"⟩, 6), (⟨"FormatDesk", "forgetLatestRun", "()V"⟩, 10), (⟨"FormatDesk", "placeOfWrong", "()I"⟩, 10), (⟨"FormatDesk$Directive", "forget", "()V"⟩, 12), (⟨"FormatDesk$Directive", "readFlags", "(LFormatDesk$Format;)V"⟩, 12), (⟨"FormatDesk$Directive", "readWidth", "(LFormatDesk$Format;)Z"⟩, 12), (⟨"FormatDesk$Directive", "readIf", "(LFormatDesk$Format;I)Z"⟩, 12), (⟨"FormatDesk$Directive", "readDigits", "(LFormatDesk$Format;)I"⟩, 12), (⟨"FormatDesk$Directive", "readPrecision", "(LFormatDesk$Format;)Z"⟩, 12), (⟨"FormatDesk$Directive", "readKind", "(LFormatDesk$Format;)Z"⟩, 12), (⟨"FormatDesk", "putOutAll", "()Z"⟩, 10), (⟨"FormatDesk", "takeStars", "()V"⟩, 10), (⟨"FormatDesk", "takeForStar", "()I"⟩, 10), (⟨"FormatDesk", "take", "()J"⟩, 10), (⟨"FormatDesk$Writer", "writeLetter", "(J)V"⟩, 2), (⟨"FormatDesk$Writer", "writeSigned", "(JLFormatDesk$Directive;)V"⟩, 2)]
theorem lw_r1 : ∀ q ∈ lw_privs_1, lw_okq q := List.forall_mem_cons.mpr ⟨lw_p0, List.forall_mem_cons.mpr ⟨lw_p1, List.forall_mem_cons.mpr ⟨lw_p2, List.forall_mem_cons.mpr ⟨lw_p3, List.forall_mem_cons.mpr ⟨lw_p4, List.forall_mem_cons.mpr ⟨lw_p5, List.forall_mem_cons.mpr ⟨lw_p6, List.forall_mem_cons.mpr ⟨lw_p7, List.forall_mem_cons.mpr ⟨lw_p8, List.forall_mem_cons.mpr ⟨lw_p9, List.forall_mem_cons.mpr ⟨lw_p10, List.forall_mem_cons.mpr ⟨lw_p11, List.forall_mem_cons.mpr ⟨lw_p12, List.forall_mem_cons.mpr ⟨lw_p13, List.forall_mem_cons.mpr ⟨lw_p14, List.forall_mem_cons.mpr ⟨lw_p15, fun _ h => absurd h List.not_mem_nil⟩⟩⟩⟩⟩⟩⟩⟩⟩⟩⟩⟩⟩⟩⟩⟩
theorem lw_p16 : lw_okq (⟨"FormatDesk$Writer", "writeDigits", "(JILFormatDesk$Directive;)V"⟩, 2) := ⟨⟨by decide +kernel, by decide +kernel⟩, List.mem_of_getElem? (i := 103) (by decide +kernel), List.mem_of_getElem? (i := 512) (by decide +kernel), List.mem_of_getElem? (i := 513) (by decide +kernel)⟩
theorem lw_p17 : lw_okq (⟨"FormatDesk$Writer", "writeUnsigned", "(JILFormatDesk$Directive;)V"⟩, 2) := ⟨⟨by decide +kernel, by decide +kernel⟩, List.mem_of_getElem? (i := 103) (by decide +kernel), List.mem_of_getElem? (i := 553) (by decide +kernel), List.mem_of_getElem? (i := 554) (by decide +kernel)⟩
theorem lw_p18 : lw_okq (⟨"FormatDesk$Writer", "writeFloating", "(JLFormatDesk$Directive;)V"⟩, 2) := ⟨⟨by decide +kernel, by decide +kernel⟩, List.mem_of_getElem? (i := 103) (by decide +kernel), List.mem_of_getElem? (i := 563) (by decide +kernel), List.mem_of_getElem? (i := 564) (by decide +kernel)⟩
theorem lw_p19 : lw_okq (⟨"FormatDesk$Writer", "writeHexadecimal", "(JILFormatDesk$Directive;)V"⟩, 2) := ⟨⟨by decide +kernel, by decide +kernel⟩, List.mem_of_getElem? (i := 103) (by decide +kernel), List.mem_of_getElem? (i := 571) (by decide +kernel), List.mem_of_getElem? (i := 572) (by decide +kernel)⟩
theorem lw_p20 : lw_okq (⟨"FormatDesk$Writer", "putPoint", "(IZ)V"⟩, 2) := ⟨⟨by decide +kernel, by decide +kernel⟩, List.mem_of_getElem? (i := 103) (by decide +kernel), List.mem_of_getElem? (i := 586) (by decide +kernel), List.mem_of_getElem? (i := 587) (by decide +kernel)⟩
theorem lw_p21 : lw_okq (⟨"FormatDesk$Writer", "putExponent", "(IZ)V"⟩, 2) := ⟨⟨by decide +kernel, by decide +kernel⟩, List.mem_of_getElem? (i := 103) (by decide +kernel), List.mem_of_getElem? (i := 590) (by decide +kernel), List.mem_of_getElem? (i := 591) (by decide +kernel)⟩
theorem lw_p22 : lw_okq (⟨"FormatDesk$Decimal", "becomeZero", "()V"⟩, 5) := ⟨⟨by decide +kernel, by decide +kernel⟩, List.mem_of_getElem? (i := 127) (by decide +kernel), List.mem_of_getElem? (i := 598) (by decide +kernel), List.mem_of_getElem? (i := 599) (by decide +kernel)⟩
theorem lw_p23 : lw_okq (⟨"FormatDesk$Decimal", "multiply", "(J)V"⟩, 5) := ⟨⟨by decide +kernel, by decide +kernel⟩, List.mem_of_getElem? (i := 127) (by decide +kernel), List.mem_of_getElem? (i := 604) (by decide +kernel), List.mem_of_getElem? (i := 605) (by decide +kernel)⟩
theorem lw_p24 : lw_okq (⟨"FormatDesk$Decimal", "spell", "()V"⟩, 5) := ⟨⟨by decide +kernel, by decide +kernel⟩, List.mem_of_getElem? (i := 127) (by decide +kernel), List.mem_of_getElem? (i := 610) (by decide +kernel), List.mem_of_getElem? (i := 611) (by decide +kernel)⟩
theorem lw_p25 : lw_okq (⟨"FormatDesk$Writer", "writeDecimal", "(LFormatDesk$Directive;)V"⟩, 2) := ⟨⟨by decide +kernel, by decide +kernel⟩, List.mem_of_getElem? (i := 103) (by decide +kernel), List.mem_of_getElem? (i := 615) (by decide +kernel), List.mem_of_getElem? (i := 616) (by decide +kernel)⟩
theorem lw_p26 : lw_okq (⟨"FormatDesk$Decimal", "addOneAtTheEnd", "()V"⟩, 5) := ⟨⟨by decide +kernel, by decide +kernel⟩, List.mem_of_getElem? (i := 127) (by decide +kernel), List.mem_of_getElem? (i := 634) (by decide +kernel), List.mem_of_getElem? (i := 635) (by decide +kernel)⟩
theorem lw_p27 : lw_okq (⟨"FormatDesk$Writer", "putDigits", "(IIZ)V"⟩, 2) := ⟨⟨by decide +kernel, by decide +kernel⟩, List.mem_of_getElem? (i := 103) (by decide +kernel), List.mem_of_getElem? (i := 640) (by decide +kernel), List.mem_of_getElem? (i := 641) (by decide +kernel)⟩
theorem lw_p28 : lw_okq (⟨"FormatDesk", "putOutPiece", "(LFormatDesk$Piece;)Z"⟩, 10) := ⟨⟨by decide +kernel, by decide +kernel⟩, List.mem_of_getElem? (i := 22) (by decide +kernel), List.mem_of_getElem? (i := 649) (by decide +kernel), List.mem_of_getElem? (i := 650) (by decide +kernel)⟩
theorem lw_p29 : lw_okq (⟨"FormatDesk", "putOut", "(I)Z"⟩, 10) := ⟨⟨by decide +kernel, by decide +kernel⟩, List.mem_of_getElem? (i := 22) (by decide +kernel), List.mem_of_getElem? (i := 657) (by decide +kernel), List.mem_of_getElem? (i := 658) (by decide +kernel)⟩
theorem lw_p30 : lw_okq (⟨"FormatDeskModel", "fails", "(ZI)Z"⟩, 30) := ⟨⟨by decide +kernel, by decide +kernel⟩, List.mem_of_getElem? (i := 690) (by decide +kernel), List.mem_of_getElem? (i := 797) (by decide +kernel), List.mem_of_getElem? (i := 798) (by decide +kernel)⟩
theorem lw_p31 : lw_okq (⟨"FormatDeskModel", "bad", "(I)Z"⟩, 30) := ⟨⟨by decide +kernel, by decide +kernel⟩, List.mem_of_getElem? (i := 690) (by decide +kernel), List.mem_of_getElem? (i := 816) (by decide +kernel), List.mem_of_getElem? (i := 817) (by decide +kernel)⟩
def lw_privs_2 : List (MethodName × Nat) := [(⟨"FormatDesk$Writer", "writeDigits", "(JILFormatDesk$Directive;)V"⟩, 2), (⟨"FormatDesk$Writer", "writeUnsigned", "(JILFormatDesk$Directive;)V"⟩, 2), (⟨"FormatDesk$Writer", "writeFloating", "(JLFormatDesk$Directive;)V"⟩, 2), (⟨"FormatDesk$Writer", "writeHexadecimal", "(JILFormatDesk$Directive;)V"⟩, 2), (⟨"FormatDesk$Writer", "putPoint", "(IZ)V"⟩, 2), (⟨"FormatDesk$Writer", "putExponent", "(IZ)V"⟩, 2), (⟨"FormatDesk$Decimal", "becomeZero", "()V"⟩, 5), (⟨"FormatDesk$Decimal", "multiply", "(J)V"⟩, 5), (⟨"FormatDesk$Decimal", "spell", "()V"⟩, 5), (⟨"FormatDesk$Writer", "writeDecimal", "(LFormatDesk$Directive;)V"⟩, 2), (⟨"FormatDesk$Decimal", "addOneAtTheEnd", "()V"⟩, 5), (⟨"FormatDesk$Writer", "putDigits", "(IIZ)V"⟩, 2), (⟨"FormatDesk", "putOutPiece", "(LFormatDesk$Piece;)Z"⟩, 10), (⟨"FormatDesk", "putOut", "(I)Z"⟩, 10), (⟨"FormatDeskModel", "fails", "(ZI)Z"⟩, 30), (⟨"FormatDeskModel", "bad", "(I)Z"⟩, 30)]
theorem lw_r2 : ∀ q ∈ lw_privs_2, lw_okq q := List.forall_mem_cons.mpr ⟨lw_p16, List.forall_mem_cons.mpr ⟨lw_p17, List.forall_mem_cons.mpr ⟨lw_p18, List.forall_mem_cons.mpr ⟨lw_p19, List.forall_mem_cons.mpr ⟨lw_p20, List.forall_mem_cons.mpr ⟨lw_p21, List.forall_mem_cons.mpr ⟨lw_p22, List.forall_mem_cons.mpr ⟨lw_p23, List.forall_mem_cons.mpr ⟨lw_p24, List.forall_mem_cons.mpr ⟨lw_p25, List.forall_mem_cons.mpr ⟨lw_p26, List.forall_mem_cons.mpr ⟨lw_p27, List.forall_mem_cons.mpr ⟨lw_p28, List.forall_mem_cons.mpr ⟨lw_p29, List.forall_mem_cons.mpr ⟨lw_p30, List.forall_mem_cons.mpr ⟨lw_p31, fun _ h => absurd h List.not_mem_nil⟩⟩⟩⟩⟩⟩⟩⟩⟩⟩⟩⟩⟩⟩⟩⟩
theorem lw_p32 : lw_okq (⟨"FormatDeskModel", "directive", "()Z"⟩, 30) := ⟨⟨by decide +kernel, by decide +kernel⟩, List.mem_of_getElem? (i := 690) (by decide +kernel), List.mem_of_getElem? (i := 820) (by decide +kernel), List.mem_of_getElem? (i := 821) (by decide +kernel)⟩
theorem lw_p33 : lw_okq (⟨"FormatDeskModel", "c", "(I)I"⟩, 30) := ⟨⟨by decide +kernel, by decide +kernel⟩, List.mem_of_getElem? (i := 690) (by decide +kernel), List.mem_of_getElem? (i := 824) (by decide +kernel), List.mem_of_getElem? (i := 825) (by decide +kernel)⟩
theorem lw_p34 : lw_okq (⟨"FormatDeskModel", "number", "()I"⟩, 30) := ⟨⟨by decide +kernel, by decide +kernel⟩, List.mem_of_getElem? (i := 690) (by decide +kernel), List.mem_of_getElem? (i := 828) (by decide +kernel), List.mem_of_getElem? (i := 829) (by decide +kernel)⟩
theorem lw_p35 : lw_okq (⟨"FormatDeskModel", "give", "(I)Z"⟩, 30) := ⟨⟨by decide +kernel, by decide +kernel⟩, List.mem_of_getElem? (i := 690) (by decide +kernel), List.mem_of_getElem? (i := 835) (by decide +kernel), List.mem_of_getElem? (i := 836) (by decide +kernel)⟩
theorem lw_p36 : lw_okq (⟨"FormatDeskModel", "next", "()J"⟩, 30) := ⟨⟨by decide +kernel, by decide +kernel⟩, List.mem_of_getElem? (i := 690) (by decide +kernel), List.mem_of_getElem? (i := 839) (by decide +kernel), List.mem_of_getElem? (i := 840) (by decide +kernel)⟩
theorem lw_p37 : lw_okq (⟨"FormatDeskModel", "piece", "(I)V"⟩, 30) := ⟨⟨by decide +kernel, by decide +kernel⟩, List.mem_of_getElem? (i := 690) (by decide +kernel), List.mem_of_getElem? (i := 849) (by decide +kernel), List.mem_of_getElem? (i := 850) (by decide +kernel)⟩
theorem lw_p38 : lw_okq (⟨"FormatDeskModel", "add", "(I)V"⟩, 30) := ⟨⟨by decide +kernel, by decide +kernel⟩, List.mem_of_getElem? (i := 690) (by decide +kernel), List.mem_of_getElem? (i := 853) (by decide +kernel), List.mem_of_getElem? (i := 854) (by decide +kernel)⟩
theorem lw_p39 : lw_okq (⟨"FormatDeskModel", "whole", "(IJ)V"⟩, 30) := ⟨⟨by decide +kernel, by decide +kernel⟩, List.mem_of_getElem? (i := 690) (by decide +kernel), List.mem_of_getElem? (i := 857) (by decide +kernel), List.mem_of_getElem? (i := 858) (by decide +kernel)⟩
theorem lw_p40 : lw_okq (⟨"FormatDeskModel", "sign", "(Z)V"⟩, 30) := ⟨⟨by decide +kernel, by decide +kernel⟩, List.mem_of_getElem? (i := 690) (by decide +kernel), List.mem_of_getElem? (i := 868) (by decide +kernel), List.mem_of_getElem? (i := 869) (by decide +kernel)⟩
theorem lw_p41 : lw_okq (⟨"FormatDeskModel", "real", "(IJ)V"⟩, 30) := ⟨⟨by decide +kernel, by decide +kernel⟩, List.mem_of_getElem? (i := 690) (by decide +kernel), List.mem_of_getElem? (i := 875) (by decide +kernel), List.mem_of_getElem? (i := 876) (by decide +kernel)⟩
theorem lw_p42 : lw_okq (⟨"FormatDeskModel", "hexadecimal", "(JIZ)V"⟩, 30) := ⟨⟨by decide +kernel, by decide +kernel⟩, List.mem_of_getElem? (i := 690) (by decide +kernel), List.mem_of_getElem? (i := 884) (by decide +kernel), List.mem_of_getElem? (i := 885) (by decide +kernel)⟩
theorem lw_p43 : lw_okq (⟨"FormatDeskModel", "decimal", "(JI)V"⟩, 30) := ⟨⟨by decide +kernel, by decide +kernel⟩, List.mem_of_getElem? (i := 690) (by decide +kernel), List.mem_of_getElem? (i := 891) (by decide +kernel), List.mem_of_getElem? (i := 892) (by decide +kernel)⟩
theorem lw_p44 : lw_okq (⟨"FormatDeskModel", "fixed", "(I)V"⟩, 30) := ⟨⟨by decide +kernel, by decide +kernel⟩, List.mem_of_getElem? (i := 690) (by decide +kernel), List.mem_of_getElem? (i := 896) (by decide +kernel), List.mem_of_getElem? (i := 897) (by decide +kernel)⟩
theorem lw_p45 : lw_okq (⟨"FormatDeskModel", "cut", "(I)Z"⟩, 30) := ⟨⟨by decide +kernel, by decide +kernel⟩, List.mem_of_getElem? (i := 690) (by decide +kernel), List.mem_of_getElem? (i := 900) (by decide +kernel), List.mem_of_getElem? (i := 901) (by decide +kernel)⟩
theorem lw_p46 : lw_okq (⟨"FormatDeskModel", "scientific", "(IZ)V"⟩, 30) := ⟨⟨by decide +kernel, by decide +kernel⟩, List.mem_of_getElem? (i := 690) (by decide +kernel), List.mem_of_getElem? (i := 904) (by decide +kernel), List.mem_of_getElem? (i := 905) (by decide +kernel)⟩
theorem lw_p47 : lw_okq (⟨"FormatDeskModel", "exponent", "(I)I"⟩, 30) := ⟨⟨by decide +kernel, by decide +kernel⟩, List.mem_of_getElem? (i := 690) (by decide +kernel), List.mem_of_getElem? (i := 908) (by decide +kernel), List.mem_of_getElem? (i := 909) (by decide +kernel)⟩
def lw_privs_3 : List (MethodName × Nat) := [(⟨"FormatDeskModel", "directive", "()Z"⟩, 30), (⟨"FormatDeskModel", "c", "(I)I"⟩, 30), (⟨"FormatDeskModel", "number", "()I"⟩, 30), (⟨"FormatDeskModel", "give", "(I)Z"⟩, 30), (⟨"FormatDeskModel", "next", "()J"⟩, 30), (⟨"FormatDeskModel", "piece", "(I)V"⟩, 30), (⟨"FormatDeskModel", "add", "(I)V"⟩, 30), (⟨"FormatDeskModel", "whole", "(IJ)V"⟩, 30), (⟨"FormatDeskModel", "sign", "(Z)V"⟩, 30), (⟨"FormatDeskModel", "real", "(IJ)V"⟩, 30), (⟨"FormatDeskModel", "hexadecimal", "(JIZ)V"⟩, 30), (⟨"FormatDeskModel", "decimal", "(JI)V"⟩, 30), (⟨"FormatDeskModel", "fixed", "(I)V"⟩, 30), (⟨"FormatDeskModel", "cut", "(I)Z"⟩, 30), (⟨"FormatDeskModel", "scientific", "(IZ)V"⟩, 30), (⟨"FormatDeskModel", "exponent", "(I)I"⟩, 30)]
theorem lw_r3 : ∀ q ∈ lw_privs_3, lw_okq q := List.forall_mem_cons.mpr ⟨lw_p32, List.forall_mem_cons.mpr ⟨lw_p33, List.forall_mem_cons.mpr ⟨lw_p34, List.forall_mem_cons.mpr ⟨lw_p35, List.forall_mem_cons.mpr ⟨lw_p36, List.forall_mem_cons.mpr ⟨lw_p37, List.forall_mem_cons.mpr ⟨lw_p38, List.forall_mem_cons.mpr ⟨lw_p39, List.forall_mem_cons.mpr ⟨lw_p40, List.forall_mem_cons.mpr ⟨lw_p41, List.forall_mem_cons.mpr ⟨lw_p42, List.forall_mem_cons.mpr ⟨lw_p43, List.forall_mem_cons.mpr ⟨lw_p44, List.forall_mem_cons.mpr ⟨lw_p45, List.forall_mem_cons.mpr ⟨lw_p46, List.forall_mem_cons.mpr ⟨lw_p47, fun _ h => absurd h List.not_mem_nil⟩⟩⟩⟩⟩⟩⟩⟩⟩⟩⟩⟩⟩⟩⟩⟩
theorem lw_p48 : lw_okq (⟨"FormatDeskModel", "general", "(IZ)V"⟩, 30) := ⟨⟨by decide +kernel, by decide +kernel⟩, List.mem_of_getElem? (i := 690) (by decide +kernel), List.mem_of_getElem? (i := 912) (by decide +kernel), List.mem_of_getElem? (i := 913) (by decide +kernel)⟩
theorem lw_p49 : lw_okq (⟨"FormatDeskModel", "pad", "()Z"⟩, 30) := ⟨⟨by decide +kernel, by decide +kernel⟩, List.mem_of_getElem? (i := 690) (by decide +kernel), List.mem_of_getElem? (i := 916) (by decide +kernel), List.mem_of_getElem? (i := 917) (by decide +kernel)⟩
def lw_privs_4 : List (MethodName × Nat) := [(⟨"FormatDeskModel", "general", "(IZ)V"⟩, 30), (⟨"FormatDeskModel", "pad", "()Z"⟩, 30)]
theorem lw_r4 : ∀ q ∈ lw_privs_4, lw_okq q := List.forall_mem_cons.mpr ⟨lw_p48, List.forall_mem_cons.mpr ⟨lw_p49, fun _ h => absurd h List.not_mem_nil⟩⟩
def lw_privs : List (MethodName × Nat) := lw_privs_1 ++ (lw_privs_2 ++ (lw_privs_3 ++ (lw_privs_4)))
def lw_tbl : List Cond := k2_sels lw_privs ++ tables_1
theorem lw_privs_ok : ∀ q ∈ lw_privs, lw_okq q := by
  show ∀ q ∈ lw_privs_1 ++ (lw_privs_2 ++ (lw_privs_3 ++ (lw_privs_4))), lw_okq q
  exact List.forall_mem_append.mpr ⟨lw_r1, List.forall_mem_append.mpr ⟨lw_r2, List.forall_mem_append.mpr ⟨lw_r3, lw_r4⟩⟩⟩
end
section
/-! MY NAMES: classes, fields, the words (all good ones of the tables), the nest's words -/
def ax_big : List Cond := lw_tbl.filter goodWord
theorem ax_in (i : Nat) {w : Cond} (h : lw_tbl[i]? = some w) (g : goodWord w = true) : w ∈ ax_big := List.mem_filter.mpr ⟨List.mem_of_getElem? h, g⟩
theorem ax_good : ∀ w ∈ ax_big, goodWord w = true := fun _ h => (List.mem_filter.mp h).2
theorem ax_big_tbl : ∀ w ∈ ax_big, w ∈ lw_tbl := fun _ h => (List.mem_filter.mp h).1
def ax_isN : Cond → Bool
  | .fieldLinkNest _ _ _ _ _ _ => true
  | .methodLinkNest _ _ _ _ => true
  | _ => false
def ax_nest : List Cond := lw_tbl.filter ax_isN
theorem ax_inN (i : Nat) {w : Cond} (h : lw_tbl[i]? = some w) (g : ax_isN w = true) : w ∈ ax_nest := List.mem_filter.mpr ⟨List.mem_of_getElem? h, g⟩
theorem ax_nest_warm {s U : State} (hW : s.WarmedH U.vm) (h : ∀ w ∈ ax_nest, va_Nw w s) : ∀ w ∈ ax_nest, va_Nw w U := by
  intro w hw
  have h1 := h w hw
  have h2 := (List.mem_filter.mp hw).2
  cases w with
  | fieldLinkNest a i b n d k => exact va_Nw.warmF hW h1
  | methodLinkNest a i x k => exact va_Nw.warmM hW h1
  | _ => simp [ax_isN] at h2
theorem ax_nest_same {u U : State} (hv : u.vm = U.vm) (h : ∀ w ∈ ax_nest, va_Nw w u) : ∀ w ∈ ax_nest, va_Nw w U := by
  intro w hw
  have h1 := h w hw
  have h2 := (List.mem_filter.mp hw).2
  cases w with
  | fieldLinkNest a i b n d k => exact va_Nw.same rfl hv h1
  | methodLinkNest a i x k => exact va_Nw.same rfl hv h1
  | _ => simp [ax_isN] at h2
def R_De : String := "FormatDesk$Decimal"
def T_De : u_T := fun k => match k with
  | 0 => ("FormatDesk$Decimal", "limbs", "[J", true)
  | 1 => ("FormatDesk$Decimal", "limbCount", "I", false)
  | 2 => ("FormatDesk$Decimal", "digits", "[B", true)
  | 3 => ("FormatDesk$Decimal", "digitCount", "I", false)
  | _ => ("FormatDesk$Decimal", "point", "I", false)
def t_De : Nat → FieldType := fun k => match k with
  | 0 => .array .long
  | 1 => .int
  | 2 => .array .byte
  | 3 => .int
  | _ => .int
theorem n_De : ∀ a, a < 5 → ∀ b, b < 5 → a ≠ b → (T_De a).2.1 ≠ (T_De b).2.1 := by decide +kernel
theorem t_De_ok : ∀ k, k < 5 → parseFieldDescriptor (T_De k).2.2.1 = some (t_De k) := by decide +kernel
theorem i_De : ∀ w ∈ u_ws R_De T_De 5, w ∈ ax_big := by decide +kernel
def R_Di : String := "FormatDesk$Directive"
def T_Di : u_T := fun k => match k with
  | 0 => ("FormatDesk$Directive", "left", "Z", false)
  | 1 => ("FormatDesk$Directive", "plus", "Z", false)
  | 2 => ("FormatDesk$Directive", "blank", "Z", false)
  | 3 => ("FormatDesk$Directive", "hash", "Z", false)
  | 4 => ("FormatDesk$Directive", "zero", "Z", false)
  | 5 => ("FormatDesk$Directive", "width", "I", false)
  | 6 => ("FormatDesk$Directive", "widthIsTaken", "Z", false)
  | 7 => ("FormatDesk$Directive", "precision", "I", false)
  | 8 => ("FormatDesk$Directive", "precisionIsTaken", "Z", false)
  | 9 => ("FormatDesk$Directive", "kind", "I", false)
  | 10 => ("FormatDesk$Directive", "great", "Z", false)
  | _ => ("FormatDesk$Directive", "at", "I", false)
def t_Di : Nat → FieldType := fun k => match k with
  | 0 => .boolean
  | 1 => .boolean
  | 2 => .boolean
  | 3 => .boolean
  | 4 => .boolean
  | 5 => .int
  | 6 => .boolean
  | 7 => .int
  | 8 => .boolean
  | 9 => .int
  | 10 => .boolean
  | _ => .int
theorem n_Di : ∀ a, a < 12 → ∀ b, b < 12 → a ≠ b → (T_Di a).2.1 ≠ (T_Di b).2.1 := by decide +kernel
theorem t_Di_ok : ∀ k, k < 12 → parseFieldDescriptor (T_Di k).2.2.1 = some (t_Di k) := by decide +kernel
theorem i_Di : ∀ w ∈ u_ws R_Di T_Di 12, w ∈ ax_big := by decide +kernel
def R_Fo : String := "FormatDesk$Format"
def T_Fo : u_T := fun k => match k with
  | 0 => ("FormatDesk$Format", "row", "[B", true)
  | _ => ("FormatDesk$Format", "size", "I", false)
def t_Fo : Nat → FieldType := fun k => match k with
  | 0 => .array .byte
  | _ => .int
theorem n_Fo : ∀ a, a < 2 → ∀ b, b < 2 → a ≠ b → (T_Fo a).2.1 ≠ (T_Fo b).2.1 := by decide +kernel
theorem t_Fo_ok : ∀ k, k < 2 → parseFieldDescriptor (T_Fo k).2.2.1 = some (t_Fo k) := by decide +kernel
theorem i_Fo : ∀ w ∈ u_ws R_Fo T_Fo 2, w ∈ ax_big := by decide +kernel
def R_Pi : String := "FormatDesk$Piece"
def T_Pi : u_T := fun k => match k with
  | 0 => ("FormatDesk$Piece", "row", "[B", true)
  | 1 => ("FormatDesk$Piece", "size", "I", false)
  | _ => ("FormatDesk$Piece", "zeroPlace", "I", false)
def t_Pi : Nat → FieldType := fun k => match k with
  | 0 => .array .byte
  | 1 => .int
  | _ => .int
theorem n_Pi : ∀ a, a < 3 → ∀ b, b < 3 → a ≠ b → (T_Pi a).2.1 ≠ (T_Pi b).2.1 := by decide +kernel
theorem t_Pi_ok : ∀ k, k < 3 → parseFieldDescriptor (T_Pi k).2.2.1 = some (t_Pi k) := by decide +kernel
theorem i_Pi : ∀ w ∈ u_ws R_Pi T_Pi 3, w ∈ ax_big := by decide +kernel
def R_Wr : String := "FormatDesk$Writer"
def T_Wr : u_T := fun k => match k with
  | 0 => ("FormatDesk$Writer", "piece", "LFormatDesk$Piece;", true)
  | _ => ("FormatDesk$Writer", "decimal", "LFormatDesk$Decimal;", true)
def t_Wr : Nat → FieldType := fun k => match k with
  | 0 => .object "FormatDesk$Piece"
  | _ => .object "FormatDesk$Decimal"
theorem n_Wr : ∀ a, a < 2 → ∀ b, b < 2 → a ≠ b → (T_Wr a).2.1 ≠ (T_Wr b).2.1 := by decide +kernel
theorem t_Wr_ok : ∀ k, k < 2 → parseFieldDescriptor (T_Wr k).2.2.1 = some (t_Wr k) := by decide +kernel
theorem i_Wr : ∀ w ∈ u_ws R_Wr T_Wr 2, w ∈ ax_big := by decide +kernel
def R_Fd : String := "FormatDesk"
def T_Fd : u_T := fun k => match k with
  | 0 => ("FormatDesk", "format", "LFormatDesk$Format;", true)
  | 1 => ("FormatDesk", "arguments", "[J", true)
  | 2 => ("FormatDesk", "argumentCount", "I", false)
  | 3 => ("FormatDesk", "out", "[B", true)
  | 4 => ("FormatDesk", "outCount", "I", false)
  | 5 => ("FormatDesk", "wrongAt", "I", false)
  | 6 => ("FormatDesk", "taken", "I", false)
  | 7 => ("FormatDesk", "directivesDone", "I", false)
  | 8 => ("FormatDesk", "directive", "LFormatDesk$Directive;", true)
  | _ => ("FormatDesk", "writer", "LFormatDesk$Writer;", true)
def t_Fd : Nat → FieldType := fun k => match k with
  | 0 => .object "FormatDesk$Format"
  | 1 => .array .long
  | 2 => .int
  | 3 => .array .byte
  | 4 => .int
  | 5 => .int
  | 6 => .int
  | 7 => .int
  | 8 => .object "FormatDesk$Directive"
  | _ => .object "FormatDesk$Writer"
theorem n_Fd : ∀ a, a < 10 → ∀ b, b < 10 → a ≠ b → (T_Fd a).2.1 ≠ (T_Fd b).2.1 := by decide +kernel
theorem t_Fd_ok : ∀ k, k < 10 → parseFieldDescriptor (T_Fd k).2.2.1 = some (t_Fd k) := by decide +kernel
theorem i_Fd : ∀ w ∈ u_ws R_Fd T_Fd 10, w ∈ ax_big := by decide +kernel
def R_Mo : String := "FormatDeskModel"
def T_Mo : u_T := fun k => match k with
  | 0 => ("FormatDeskModel", "err", "I", false)
  | 1 => ("FormatDeskModel", "letters", "I", false)
  | 2 => ("FormatDeskModel", "many", "I", false)
  | 3 => ("FormatDeskModel", "out", "I", false)
  | 4 => ("FormatDeskModel", "taken", "I", false)
  | 5 => ("FormatDeskModel", "did", "I", false)
  | 6 => ("FormatDeskModel", "wrong", "I", false)
  | 7 => ("FormatDeskModel", "format", "[I", true)
  | 8 => ("FormatDeskModel", "put", "[I", true)
  | 9 => ("FormatDeskModel", "argument", "[J", true)
  | 10 => ("FormatDeskModel", "at", "I", false)
  | 11 => ("FormatDeskModel", "width", "I", false)
  | 12 => ("FormatDeskModel", "precision", "I", false)
  | 13 => ("FormatDeskModel", "left", "Z", false)
  | 14 => ("FormatDeskModel", "plus", "Z", false)
  | 15 => ("FormatDeskModel", "blank", "Z", false)
  | 16 => ("FormatDeskModel", "hash", "Z", false)
  | 17 => ("FormatDeskModel", "zero", "Z", false)
  | 18 => ("FormatDeskModel", "widthTaken", "Z", false)
  | 19 => ("FormatDeskModel", "precisionTaken", "Z", false)
  | 20 => ("FormatDeskModel", "front", "[I", true)
  | 21 => ("FormatDeskModel", "body", "[I", true)
  | 22 => ("FormatDeskModel", "fronts", "I", false)
  | 23 => ("FormatDeskModel", "size", "I", false)
  | 24 => ("FormatDeskModel", "zeros", "Z", false)
  | 25 => ("FormatDeskModel", "row", "[I", true)
  | 26 => ("FormatDeskModel", "digits", "[I", true)
  | 27 => ("FormatDeskModel", "other", "[I", true)
  | 28 => ("FormatDeskModel", "count", "I", false)
  | _ => ("FormatDeskModel", "point", "I", false)
def t_Mo : Nat → FieldType := fun k => match k with
  | 0 => .int
  | 1 => .int
  | 2 => .int
  | 3 => .int
  | 4 => .int
  | 5 => .int
  | 6 => .int
  | 7 => .array .int
  | 8 => .array .int
  | 9 => .array .long
  | 10 => .int
  | 11 => .int
  | 12 => .int
  | 13 => .boolean
  | 14 => .boolean
  | 15 => .boolean
  | 16 => .boolean
  | 17 => .boolean
  | 18 => .boolean
  | 19 => .boolean
  | 20 => .array .int
  | 21 => .array .int
  | 22 => .int
  | 23 => .int
  | 24 => .boolean
  | 25 => .array .int
  | 26 => .array .int
  | 27 => .array .int
  | 28 => .int
  | _ => .int
theorem n_Mo : ∀ a, a < 30 → ∀ b, b < 30 → a ≠ b → (T_Mo a).2.1 ≠ (T_Mo b).2.1 := by decide +kernel
theorem t_Mo_ok : ∀ k, k < 30 → parseFieldDescriptor (T_Mo k).2.2.1 = some (t_Mo k) := by decide +kernel
theorem i_Mo : ∀ w ∈ u_ws R_Mo T_Mo 30, w ∈ ax_big := by decide +kernel
abbrev ax_cl : List vw_C := [(R_De, T_De, 5), (R_Di, T_Di, 12), (R_Fo, T_Fo, 2), (R_Pi, T_Pi, 3), (R_Wr, T_Wr, 2), (R_Fd, T_Fd, 10), (R_Mo, T_Mo, 30)]
def ax_ty (ci : Nat) : Nat → FieldType := match ci with
  | 0 => t_De
  | 1 => t_Di
  | 2 => t_Fo
  | 3 => t_Pi
  | 4 => t_Wr
  | 5 => t_Fd
  | _ => t_Mo
theorem ax_tyok {ci : Nat} {C : String} {T : u_T} {N : Nat} (hc : ax_cl[ci]? = some (C, T, N)) : ∀ k, k < N → parseFieldDescriptor (T k).2.2.1 = some (ax_ty ci k) := by
  match ci, hc with
  | 0, hc => cases hc; exact t_De_ok
  | 1, hc => cases hc; exact t_Di_ok
  | 2, hc => cases hc; exact t_Fo_ok
  | 3, hc => cases hc; exact t_Pi_ok
  | 4, hc => cases hc; exact t_Wr_ok
  | 5, hc => cases hc; exact t_Fd_ok
  | 6, hc => cases hc; exact t_Mo_ok
  | n + 7, hc => simp [ax_cl] at hc
theorem ax_names {ci : Nat} {C : String} {T : u_T} {N : Nat} (hc : ax_cl[ci]? = some (C, T, N)) : ∀ a, a < N → ∀ b, b < N → a ≠ b → (T a).2.1 ≠ (T b).2.1 := by
  match ci, hc with
  | 0, hc => cases hc; exact n_De
  | 1, hc => cases hc; exact n_Di
  | 2, hc => cases hc; exact n_Fo
  | 3, hc => cases hc; exact n_Pi
  | 4, hc => cases hc; exact n_Wr
  | 5, hc => cases hc; exact n_Fd
  | 6, hc => cases hc; exact n_Mo
  | n + 7, hc => simp [ax_cl] at hc
theorem ax_laysB {ci : Nat} {C : String} {T : u_T} {N : Nat} (hc : ax_cl[ci]? = some (C, T, N)) : ∀ w ∈ u_ws C T N, w ∈ ax_big := by
  match ci, hc with
  | 0, hc => cases hc; exact i_De
  | 1, hc => cases hc; exact i_Di
  | 2, hc => cases hc; exact i_Fo
  | 3, hc => cases hc; exact i_Pi
  | 4, hc => cases hc; exact i_Wr
  | 5, hc => cases hc; exact i_Fd
  | 6, hc => cases hc; exact i_Mo
  | n + 7, hc => simp [ax_cl] at hc
end
section
/-! THE ABSTRACT LAYER, 1: cells by number; pictures of the heap as lists (number, cell); 'ad' says where a number lies -/
abbrev ax_E : Type := (Nat × vp_A) ⊕ (Nat × List Value)
abbrev ax_H : Type := List (Nat × ax_E)
def ax_v (ad : Nat → Nat) (v : Value) : Value := match v with
  | .ref i => .ref (ad i)
  | .int x => .int x
  | .long x => .long x
  | .float x => .float x
  | .double x => .double x
  | .null => .null
  | .retAddr x => .retAddr x
theorem ax_vc (ad : Nat → Nat) (v : Value) : (ax_v ad v).category = v.category := by cases v <;> rfl
def ax_e (cid : Nat → ClassId) (ad : Nat → Nat) (e : ax_E) : va_E := match e with
  | .inl a => .inl (cid a.1, a.2)
  | .inr o => .inr (o.1, o.2.map (ax_v ad))
def ax_w (cid : Nat → ClassId) (ad : Nat → Nat) (h : ax_H) : va_W := h.map (fun q => (ad q.1, ax_e cid ad q.2))
def ax_l (ad : Nat → Nat) (lv : List (Nat × Value)) : List (Nat × Value) := lv.map (fun q => (q.1, ax_v ad q.2))
def ax_tys (cid : Nat → ClassId) : List (ClassId × FieldType) := [(cid 0, .int), (cid 1, .byte), (cid 2, .long)]
theorem ax_tyAt (cid : Nat → ClassId) {t : Nat} (ht : t < 3) : ∃ ty, (ax_tys cid)[t]? = some (cid t, ty) := by
  rcases (show t = 0 ∨ t = 1 ∨ t = 2 by omega) with rfl | rfl | rfl
  · exact ⟨_, rfl⟩
  · exact ⟨_, rfl⟩
  · exact ⟨_, rfl⟩
/-- the place and the cell of a number -/
def ax_f (k : Nat) : ax_H → Option (Nat × ax_E)
  | [] => none
  | q :: h => cond (Nat.beq q.1 k) (some (0, q.2)) ((ax_f k h).map (fun r => (r.1 + 1, r.2)))
theorem ax_f_spec {k i : Nat} {e : ax_E} : ∀ {h : ax_H}, ax_f k h = some (i, e) → h[i]? = some (k, e)
  | [], hh => by simp [ax_f] at hh
  | q :: h, hh => by
    unfold ax_f at hh
    cases hb : Nat.beq q.1 k with
    | true =>
      rw [hb] at hh
      simp only [cond_true, Option.some.injEq, Prod.mk.injEq] at hh
      obtain ⟨rfl, rfl⟩ := hh
      have : q.1 = k := Nat.eq_of_beq_eq_true hb
      subst this
      rfl
    | false =>
      rw [hb] at hh
      simp only [cond_false] at hh
      cases hf : ax_f k h with
      | none => rw [hf] at hh; simp at hh
      | some r =>
        rw [hf] at hh
        simp only [Option.map_some, Option.some.injEq, Prod.mk.injEq] at hh
        obtain ⟨rfl, rfl⟩ := hh
        rw [List.getElem?_cons_succ]
        exact ax_f_spec hf
/-- a local -/
def ax_q (i : Nat) : List (Nat × Value) → Option Value
  | [] => none
  | q :: r => cond (Nat.beq q.1 i) (some q.2) (ax_q i r)
theorem ax_q_mem {i : Nat} {v : Value} : ∀ {lv : List (Nat × Value)}, ax_q i lv = some v → (i, v) ∈ lv
  | [], hh => by simp [ax_q] at hh
  | q :: r, hh => by
    unfold ax_q at hh
    cases hb : Nat.beq q.1 i with
    | true =>
      rw [hb] at hh
      simp only [cond_true, Option.some.injEq] at hh
      have : q.1 = i := Nat.eq_of_beq_eq_true hb
      subst this
      subst hh
      exact List.mem_cons_self
    | false =>
      rw [hb] at hh
      simp only [cond_false] at hh
      exact List.mem_cons_of_mem _ (ax_q_mem hh)
theorem ax_lget {ls : Array Slot} {nL i : Nat} {ad : Nat → Nat} {lv : List (Nat × Value)} {v : Value} (hl : lv_has ls nL (ax_l ad lv)) (hv : ax_q i lv = some v) : ls[i]? = some (.val (ax_v ad v)) :=
  hl.2.2 (i, ax_v ad v) (List.mem_map.mpr ⟨(i, v), ax_q_mem hv, rfl⟩)
theorem ax_lix {i : Nat} {ad : Nat → Nat} {lv : List (Nat × Value)} {v : Value} (hv : ax_q i lv = some v) : ∃ j : Nat, (ax_l ad lv)[j]? = some (i, ax_v ad v) :=
  List.getElem?_of_mem (List.mem_map.mpr ⟨(i, v), ax_q_mem hv, rfl⟩)
def ax_ins (i : Nat) (v : Value) : List (Nat × Value) → List (Nat × Value)
  | [] => [(i, v)]
  | q :: r => cond (Nat.ble i q.1) ((i, v) :: q :: r) (q :: ax_ins i v r)
theorem ax_ins_mem {i : Nat} {v : Value} {x : Nat × Value} : ∀ {l : List (Nat × Value)}, x ∈ ax_ins i v l → x = (i, v) ∨ x ∈ l
  | [], hx => by
    left
    simpa [ax_ins] using hx
  | q :: r, hx => by
    unfold ax_ins at hx
    cases hb : Nat.ble i q.1 with
    | true =>
      rw [hb] at hx
      simp only [cond_true] at hx
      rcases List.mem_cons.mp hx with h | h
      · exact Or.inl h
      · exact Or.inr h
    | false =>
      rw [hb] at hx
      simp only [cond_false] at hx
      rcases List.mem_cons.mp hx with h | h
      · exact Or.inr (by rw [h]; exact List.mem_cons_self)
      · rcases ax_ins_mem h with h | h
        · exact Or.inl h
        · exact Or.inr (List.mem_cons_of_mem _ h)
def ax_s1 (i : Nat) (v : Value) (lv : List (Nat × Value)) : List (Nat × Value) := ax_ins i v (lv.filter (fun q => !(q.1 == i) && !(q.1 + 1 == i && q.2.category == 2)))
def ax_s2 (i : Nat) (v : Value) (lv : List (Nat × Value)) : List (Nat × Value) := ax_ins i v (lv.filter (fun q => !(q.1 == i) && (!(q.1 == i + 1) && !(q.1 + 1 == i && q.2.category == 2))))
theorem ax_lput1 {ls : Array Slot} {nL i : Nat} {ad : Nat → Nat} {lv : List (Nat × Value)} {v : Value} (hl : lv_has ls nL ((i, ax_v ad v) :: (ax_l ad lv).filter (fun q => !(q.1 == i) && !(q.1 + 1 == i && q.2.category == 2)))) : lv_has ls nL (ax_l ad (ax_s1 i v lv)) := by
  refine ⟨hl.1, hl.2.1, fun q hq => hl.2.2 q ?_⟩
  obtain ⟨q0, h0, rfl⟩ := List.mem_map.mp hq
  rcases ax_ins_mem h0 with h | h
  · rw [h]; exact List.mem_cons_self
  · obtain ⟨h1, h2⟩ := List.mem_filter.mp h
    refine List.mem_cons_of_mem _ (List.mem_filter.mpr ⟨List.mem_map.mpr ⟨q0, h1, rfl⟩, ?_⟩)
    simp only [ax_vc]
    exact h2
theorem ax_lput2 {ls : Array Slot} {nL i : Nat} {ad : Nat → Nat} {lv : List (Nat × Value)} {v : Value} (hl : lv_has ls nL ((i, ax_v ad v) :: (ax_l ad lv).filter (fun q => !(q.1 == i) && (!(q.1 == i + 1) && !(q.1 + 1 == i && q.2.category == 2))))) : lv_has ls nL (ax_l ad (ax_s2 i v lv)) := by
  refine ⟨hl.1, hl.2.1, fun q hq => hl.2.2 q ?_⟩
  obtain ⟨q0, h0, rfl⟩ := List.mem_map.mp hq
  rcases ax_ins_mem h0 with h | h
  · rw [h]; exact List.mem_cons_self
  · obtain ⟨h1, h2⟩ := List.mem_filter.mp h
    refine List.mem_cons_of_mem _ (List.mem_filter.mpr ⟨List.mem_map.mpr ⟨q0, h1, rfl⟩, ?_⟩)
    simp only [ax_vc]
    exact h2
theorem ax_wget {cid : Nat → ClassId} {ad : Nat → Nat} {h : ax_H} {i k : Nat} {e : ax_E} (hh : h[i]? = some (k, e)) : (ax_w cid ad h)[i]? = some (ad k, ax_e cid ad e) := by
  unfold ax_w
  rw [List.getElem?_map, hh]
  rfl
theorem ax_wset_eq (cid : Nat → ClassId) (ad : Nat → Nat) (h : ax_H) (i a : Nat) (e : ax_E) : ax_w cid ad (h.set i (a, e)) = (ax_w cid ad h).set i (ad a, ax_e cid ad e) := by
  unfold ax_w
  rw [List.map_set]
theorem ax_wsetP {D : va_G} {cl : List vw_C} {cid : Nat → ClassId} {ad : Nat → Nat} {h : ax_H} {i a : Nat} {e : ax_E} {H : Heap} (hP : va_P D cl ((ax_w cid ad h).set i (ad a, ax_e cid ad e)) H) : va_P D cl (ax_w cid ad (h.set i (a, e))) H := by
  rw [ax_wset_eq]; exact hP
theorem ax_wsetD {A : Nat → Prop} {cid : Nat → ClassId} {ad : Nat → Nat} {h : ax_H} {i a : Nat} {e : ax_E} (hD : va_D A ((ax_w cid ad h).set i (ad a, ax_e cid ad e))) : va_D A (ax_w cid ad (h.set i (a, e))) := by
  rw [ax_wset_eq]; exact hD
theorem ax_wsetFP {D : va_G} {cl : List vw_C} {cid : Nat → ClassId} {ad : Nat → Nat} {h : ax_H} {i a ci j : Nat} {fs : List Value} {v : Value} {H : Heap} (hP : va_P D cl ((ax_w cid ad h).set i (ad a, .inr (ci, (fs.map (ax_v ad)).set j (ax_v ad v)))) H) : va_P D cl (ax_w cid ad (h.set i (a, .inr (ci, fs.set j v)))) H := by
  rw [ax_wset_eq]
  show va_P D cl ((ax_w cid ad h).set i (ad a, .inr (ci, (fs.set j v).map (ax_v ad)))) H
  rw [List.map_set]; exact hP
theorem ax_wsetFD {A : Nat → Prop} {cid : Nat → ClassId} {ad : Nat → Nat} {h : ax_H} {i a ci j : Nat} {fs : List Value} {v : Value} (hD : va_D A ((ax_w cid ad h).set i (ad a, .inr (ci, (fs.map (ax_v ad)).set j (ax_v ad v))))) : va_D A (ax_w cid ad (h.set i (a, .inr (ci, fs.set j v)))) := by
  rw [ax_wset_eq]
  show va_D A ((ax_w cid ad h).set i (ad a, .inr (ci, (fs.set j v).map (ax_v ad))))
  rw [List.map_set]; exact hD
theorem ax_fsget {ad : Nat → Nat} {fs : List Value} {j : Nat} {v : Value} (hv : fs[j]? = some v) : (fs.map (ax_v ad))[j]? = some (ax_v ad v) := by
  rw [List.getElem?_map, hv]
  rfl
end
section
/-! what lies still: the String constants (100 + i the String, 110 + i its bytes), the table of fives (120) -/
def ax_len : List Nat := [16, 16, 2, 3, 3, 16, 3, 3]
def ax_txt (s : String) : List Int32 := s.toList.map (fun c => Int32.ofNat c.toNat)
def ax_byt : List (List Int32) := ["diuoxXceEfFgGaA%", "0123456789abcdef", "0x", "inf", "nan", "diouxXceEfFgGaA%", "INF", "NAN"].map ax_txt
def ax_refs : List (String × Nat × String × Nat) := [("FormatDesk$Directive", 87, "diuoxXceEfFgGaA%", 0), ("FormatDesk$Piece", 45, "0123456789abcdef", 1), ("FormatDesk$Writer", 78, "0x", 2), ("FormatDesk$Writer", 106, "inf", 3), ("FormatDesk$Writer", 108, "nan", 4), ("FormatDeskModel", 101, "diouxXceEfFgGaA%", 5), ("FormatDeskModel", 218, "INF", 6), ("FormatDeskModel", 220, "inf", 3), ("FormatDeskModel", 222, "NAN", 7), ("FormatDeskModel", 224, "nan", 4)]
def ax_five (j : Nat) : Int64 := Int64.ofNat (5 ^ j)
def ax_X (ad : Nat → Nat) (A : Nat → Prop) (U : State) (H : Heap) : Prop :=
  vk_S 8 ax_len ax_byt (fun i => ad (100 + i)) (fun i => ad (110 + i)) A U H ∧ (∀ q ∈ ax_refs, vk_R q.1 q.2.1 q.2.2.1 (ad (100 + q.2.2.2)) U) ∧ va_Z "java/lang/String" "COMPACT_STRINGS" "Z" (.int 1) A U H ∧ va_Z "FormatDesk$Decimal" "FIVES" "[J" (.ref (ad 120)) A U H ∧ va_T .long (ad 120) 13 (fun j => .long (ax_five j)) A U H
theorem ax_X.kept {ad : Nat → Nat} {A : Nat → Prop} {U : State} {H H1 : Heap} (h : ax_X ad A U H) (hq : ∀ a : Nat, a < H.size → ¬ A a → H1[a]? = H[a]?) : ax_X ad A U H1 :=
  ⟨h.1.kept hq, h.2.1, h.2.2.1.kept hq, h.2.2.2.1.kept hq, h.2.2.2.2.kept hq⟩
theorem ax_X.moved {ad : Nat → Nat} {A : Nat → Prop} {s U : State} {H : Heap} (h : ax_X ad A s H) (hW : s.WarmedH U.vm) : ax_X ad A U H :=
  ⟨vk_S.moved hW.alike h.1, fun q hq => (h.2.1 q hq).warm hW, va_Z.moved hW.alike h.2.2.1, va_Z.moved hW.alike h.2.2.2.1, va_T.moved hW.alike h.2.2.2.2⟩
theorem ax_X.narrow {ad : Nat → Nat} {A B : Nat → Prop} {U : State} {H : Heap} (h : ax_X ad A U H) (hAB : ∀ q, B q → A q) : ax_X ad B U H :=
  ⟨h.1.narrow hAB, h.2.1, h.2.2.1.narrow hAB, h.2.2.2.1.narrow hAB, h.2.2.2.2.narrow hAB⟩
theorem ax_X.same {ad : Nat → Nat} {A : Nat → Prop} {u U : State} {H : Heap} (hv : u.vm = U.vm) (h : ax_X ad A u H) : ax_X ad A U H := by
  have ha : u.vm.Alike U.vm := by rw [← hv]; exact Vm.Alike.refl u.vm
  exact ⟨vk_S.moved ha h.1, fun q hq => (h.2.1 q hq).same hv.symm, va_Z.moved ha h.2.2.1, va_Z.moved ha h.2.2.2.1, va_T.moved ha h.2.2.2.2⟩
/-! THE ABSTRACT LAYER, 2: a method's ground, the judgement ax_V, contracts ax_CT -/
theorem ax_narrow {ad : Nat → Nat} {ty : FieldType} {v : Value} (h : narrow ty v = v) : narrow ty (ax_v ad v) = ax_v ad v := by
  cases v with
  | ref i => cases ty <;> rfl
  | _ => exact h
theorem ax_fits {ad : Nat → Nat} {ty : FieldType} {v : Value} (h : fits ty v = true) : fits ty (ax_v ad v) = true := by
  cases v with
  | ref i => cases ty <;> first | exact h | rfl
  | _ => exact h
/-- a method's ground: the machine, its code, the tables' words, the classes, what lies still -/
def ax_G (p : Program) (s : State) (m : MethodId) (args : Array Value) (meth : Method) (c : Code) (Ts : List Cond) (own : String) (cc : ByteArray) (nL : Nat) (D : va_G) (cid : Nat → ClassId) (ad : Nat → Nat) (A : Nat → Prop) : Prop :=
  p.tables.exec = Jvm.exec ∧ c.code = cc ∧ c.maxLocals = nL ∧ s.vm.findClass own = some m.cls ∧ (∀ w ∈ Ts, w.before args s = true) ∧ va_K D ax_cl (ax_tys cid) s ∧ (∀ q : Nat, s.heap.size ≤ q → A q) ∧ meth.locks = false ∧ (∀ w ∈ ax_nest, va_Nw w s) ∧ (∀ w ∈ ax_big, w ∈ Ts) ∧ ax_X ad A s s.heap
theorem ax_say {p : Program} {s : State} {m : MethodId} {args : Array Value} {meth : Method} {c : Code} {Ts : List Cond} {own : String} {cc : ByteArray} {nL : Nat} {D : va_G} {cid : Nat → ClassId} {ad : Nat → Nat} {A : Nat → Prop} (G : ax_G p s m args meth c Ts own cc nL D cid ad A) {w : Cond} (hw : w ∈ ax_big) : w.before args s = true := G.2.2.2.2.1 w (G.2.2.2.2.2.2.2.2.2.1 w hw)
theorem ax_lays {p : Program} {s : State} {m : MethodId} {args : Array Value} {meth : Method} {c : Code} {Ts : List Cond} {own : String} {cc : ByteArray} {nL : Nat} {D : va_G} {cid : Nat → ClassId} {ad : Nat → Nat} {A : Nat → Prop} (G : ax_G p s m args meth c Ts own cc nL D cid ad A) {ci : Nat} {C : String} {T : u_T} {N : Nat} (hc : ax_cl[ci]? = some (C, T, N)) : ∀ w ∈ u_ws C T N, w ∈ Ts := fun w hw => G.2.2.2.2.2.2.2.2.2.1 w (ax_laysB hc w hw)
def ax_V (p : Program) (l : Launch) (e : Env) (R : Room) (s : State) (m : MethodId) (args : Array Value) (below : List Frame) (meth : Method) (c : Code) (D : va_G) (cid : Nat → ClassId) (ad : Nat → Nat) (A : Nat → Prop) (nL : Nat) (cells slots : Nat) (Q : State → Prop) (pc : Nat) (lv : List (Nat × Value)) (st : List Value) (h : ax_H) : Prop :=
  ∀ (H : Heap) (locs : List Loc) (ls : Array Slot), va_P D ax_cl (ax_w cid ad h) H → va_D A (ax_w cid ad h) → va_S A s.heap H locs → lv_has ls nL (ax_l ad lv) →
    W p l e R s m args below meth c H locs cells slots Q (F0 m pc ls (st.map (ax_v ad)))
def ax_Pre (D : va_G) (cid : Nat → ClassId) (ad : Nat → Nat) (h : ax_H) (sz : Nat) (U : State) : Prop :=
  U.heap.size = sz ∧ va_P D ax_cl (ax_w cid ad h) U.heap ∧ va_K D ax_cl (ax_tys cid) U ∧ va_D (fun _ => True) (ax_w cid ad h) ∧ (∀ w ∈ ax_nest, va_Nw w U) ∧ ax_X ad (va_A (ax_w cid ad h) sz) U U.heap
def ax_Post (D : va_G) (cid : Nat → ClassId) (ad : Nat → Nat) (h0 : ax_H) (sz : Nat) (Q : Option Value → ax_H → Prop) : Array Value → State → Outcome → State → Prop := fun _ st oc t =>
  (∃ (r : Option Value) (h : ax_H), oc = .returned (r.map (ax_v ad)) ∧ Q r h ∧ h.map Prod.fst = h0.map Prod.fst ∧ va_P D ax_cl (ax_w cid ad h) t.heap ∧ va_D (va_A (ax_w cid ad h0) sz) (ax_w cid ad h)) ∧ va_F (va_A (ax_w cid ad h0) sz) st t
def ax_rm (k : Nat) : Room := { frames := k, cells := 0, slots := 0, locals := 40 * k }
/-- the contract of a method that makes nothing: called with 'as' where the cells are h, it comes back with an answer and cells of which Q holds -/
def ax_CT (l : Launch) (y : MethodName) (cc : ByteArray) (nL : Nat) (ret : Option FieldType) (k : Nat) (as : List Value) (h : ax_H) (Q : Option Value → ax_H → Prop) : Prop :=
  ∀ (D : va_G) (cid : Nat → ClassId) (ad : Nat → Nat) (sz : Nat), Met l y (Cond.code y cc nL ret :: ax_big) (ax_rm k) (va_Pc (as.map (ax_v ad)) (ax_Pre D cid ad h sz)) (ax_Post D cid ad h sz Q) 0 0 (va_A (ax_w cid ad h) sz)
theorem ax_args (ad : Nat → Nat) : ∀ (as : List Value) (i : Nat), lv_args i (as.map (ax_v ad)) = ax_l ad (lv_args i as)
  | [], _ => rfl
  | v :: as, i => by
    show (i, ax_v ad v) :: lv_args (if (ax_v ad v).category = 2 then i + 2 else i + 1) (as.map (ax_v ad)) = (i, ax_v ad v) :: ax_l ad (lv_args (if v.category = 2 then i + 2 else i + 1) as)
    rw [ax_vc, ax_args ad as]
theorem ax_slen (ad : Nat → Nat) : ∀ (as : List Value), (lg_sl (as.map (ax_v ad))).length = (lg_sl as).length
  | [] => rfl
  | v :: as => by
    have e1 : lg_sl ((v :: as).map (ax_v ad)) = (if (ax_v ad v).category = 2 then [.val (ax_v ad v), .second] else [.val (ax_v ad v)]) ++ lg_sl (as.map (ax_v ad)) := rfl
    have e2 : lg_sl (v :: as) = (if v.category = 2 then [.val v, .second] else [.val v]) ++ lg_sl as := rfl
    rw [e1, e2, ax_vc, List.length_append, List.length_append, ax_slen ad as]
    by_cases hc : v.category = 2
    · rw [if_pos hc, if_pos hc]; rfl
    · rw [if_neg hc, if_neg hc]; rfl
set_option maxHeartbeats 1000000 in
/-- a contract out of the walk of the body -/
theorem ax_ofV {l : Launch} {y : MethodName} {cc : ByteArray} {nL : Nat} {ret : Option FieldType} {k : Nat} {as : List Value} {h : ax_H} {Q : Option Value → ax_H → Prop} (hy : plainName y.cls = true) (hn : (lg_sl as).length ≤ nL)
    (body : ∀ (p : Program) (e : Env) (s : State) (m : MethodId) (args : Array Value) (below : List Frame) (meth : Method) (c : Code) (D : va_G) (cid : Nat → ClassId) (ad : Nat → Nat) (A : Nat → Prop) (Qc : Array Value → State → Outcome → State → Prop),
      ax_G p s m args meth c (Cond.code y cc nL ret :: ax_big) y.cls cc nL D cid ad A → meth.sig.returnType = ret →
      (∀ (r : Option Value) (h' : ax_H) (t : State) (H : Heap) (locs : List Loc), Q r h' → h'.map Prod.fst = h.map Prod.fst → va_P D ax_cl (ax_w cid ad h') H → va_D A (ax_w cid ad h') → va_S A s.heap H locs → t.heap = H → Qc args s (.returned (r.map (ax_v ad))) t) →
      ax_V p l e (ax_rm k) s m args below meth c D cid ad A nL 0 0 (MQ below Qc args s 0 0 A) 0 (lv_args 0 as) [] h) : ax_CT l y cc nL ret k as h Q := by
  intro D cid ad sz
  refine Met.ofW (cc := cc) (maxL := nL) (ret := ret) hy rfl ?_
  intro p e s m args below meth c s₁ B hml hv
  obtain ⟨rfl, hsz, hP, hK, hD0, hN, hX⟩ := hv
  subst hsz
  have hD := hD0.self (sz := s.heap.size)
  rw [lg_entry_eq]
  have hl := lv_entry (as.map (ax_v ad)) (n := nL) (by rw [ax_slen]; exact hn)
  rw [ax_args] at hl
  exact body p e s m _ below meth c D cid ad _ _ ⟨B.exec, B.bytes, hml, findClass_of_methodNamed B.named, atoms_spec (ws := Cond.code y cc nL ret :: ax_big) B.pre, hK, fun q hq => Or.inr hq, B.notSynchronized, hN, fun w hw => List.mem_cons_of_mem _ hw, hX⟩ B.returns
    (fun r h' t H locs hq hk hP hD hS ht => ⟨⟨r, h', rfl, hq, hk, by rw [ht]; exact hP, hD⟩, hS.F ht⟩) s.heap [] _ hP hD va_S.rf hl
end
section
section AXR
variable {p : Program} {l : Launch} {e : Env} {R : Room} {s : State} {m : MethodId} {args : Array Value} {below : List Frame} {meth : Method} {c : Code} {cells slots : Nat} {Q : State → Prop}
variable {D : va_G} {cid : Nat → ClassId} {ad : Nat → Nat} {A : Nat → Prop} {nL : Nat} {Ts : List Cond} {own : String} {cc : ByteArray}
variable {pc : Nat} {lv : List (Nat × Value)} {st : List Value} {h : ax_H}
theorem ax_iconst (G : ax_G p s m args meth c Ts own cc nL D cid ad A) {n : Int} {v : Int32} (d : decode cc pc = .ok (.iconst n, 1)) (hv : Int32.ofInt n = v) (k : ax_V p l e R s m args below meth c D cid ad A nL cells slots Q (pc + 1) lv (.int v :: st) h) : ax_V p l e R s m args below meth c D cid ad A nL cells slots Q pc lv st h := fun H locs ls hP hD hS hl => lv_iconst G.1 G.2.1 d hv (k H locs ls hP hD hS hl)
theorem ax_bipush (G : ax_G p s m args meth c Ts own cc nL D cid ad A) {n : Int} {v : Int32} (d : decode cc pc = .ok (.bipush n, 2)) (hv : (Int8.ofInt n).toInt32 = v) (k : ax_V p l e R s m args below meth c D cid ad A nL cells slots Q (pc + 2) lv (.int v :: st) h) : ax_V p l e R s m args below meth c D cid ad A nL cells slots Q pc lv st h := fun H locs ls hP hD hS hl => lv_bipush G.1 G.2.1 d hv (k H locs ls hP hD hS hl)
theorem ax_sipush (G : ax_G p s m args meth c Ts own cc nL D cid ad A) {n : Int} {v : Int32} (d : decode cc pc = .ok (.sipush n, 3)) (hv : (Int16.ofInt n).toInt32 = v) (k : ax_V p l e R s m args below meth c D cid ad A nL cells slots Q (pc + 3) lv (.int v :: st) h) : ax_V p l e R s m args below meth c D cid ad A nL cells slots Q pc lv st h := fun H locs ls hP hD hS hl => lv_sipush G.1 G.2.1 d hv (k H locs ls hP hD hS hl)
theorem ax_lconst (G : ax_G p s m args meth c Ts own cc nL D cid ad A) {n : Fin 2} {v : Int64} (d : decode cc pc = .ok (.lconst n, 1)) (hv : Int64.ofNat (n : Nat) = v) (k : ax_V p l e R s m args below meth c D cid ad A nL cells slots Q (pc + 1) lv (.long v :: st) h) : ax_V p l e R s m args below meth c D cid ad A nL cells slots Q pc lv st h := fun H locs ls hP hD hS hl => lv_lconst G.1 G.2.1 d hv (k H locs ls hP hD hS hl)
theorem ax_ldc (G : ax_G p s m args meth c Ts own cc nL D cid ad A) {i : Nat} {v : Int32} (d : decode cc pc = .ok (.ldc i, 2)) (hw : Cond.constant own i v ∈ ax_big) (k : ax_V p l e R s m args below meth c D cid ad A nL cells slots Q (pc + 2) lv (.int v :: st) h) : ax_V p l e R s m args below meth c D cid ad A nL cells slots Q pc lv st h := fun H locs ls hP hD hS hl => lv_ldc G.1 G.2.1 G.2.2.2.1 (ax_say G hw) d (k H locs ls hP hD hS hl)
theorem ax_ldc2 (G : ax_G p s m args meth c Ts own cc nL D cid ad A) {i : Nat} {v : Int64} (d : decode cc pc = .ok (.ldc2_w i, 3)) (hw : Cond.constantLong own i v ∈ ax_big) (k : ax_V p l e R s m args below meth c D cid ad A nL cells slots Q (pc + 3) lv (.long v :: st) h) : ax_V p l e R s m args below meth c D cid ad A nL cells slots Q pc lv st h := fun H locs ls hP hD hS hl => lv_ldc2 G.1 G.2.1 G.2.2.2.1 (ax_say G hw) d (k H locs ls hP hD hS hl)
theorem ax_iload_n (G : ax_G p s m args meth c Ts own cc nL D cid ad A) {k4 : Fin 4} {i : Nat} {x : Int32} (d : decode cc pc = .ok (.iload_n k4, 1)) (hi : (k4 : Nat) = i) (hv : ax_q i lv = some (.int x)) (k : ax_V p l e R s m args below meth c D cid ad A nL cells slots Q (pc + 1) lv (.int x :: st) h) : ax_V p l e R s m args below meth c D cid ad A nL cells slots Q pc lv st h := fun H locs ls hP hD hS hl => lv_iload_n G.1 G.2.1 d hi (ax_lget hl hv) (k H locs ls hP hD hS hl)
theorem ax_iload (G : ax_G p s m args meth c Ts own cc nL D cid ad A) {i : Nat} {x : Int32} (d : decode cc pc = .ok (.iload i, 2)) (hv : ax_q i lv = some (.int x)) (k : ax_V p l e R s m args below meth c D cid ad A nL cells slots Q (pc + 2) lv (.int x :: st) h) : ax_V p l e R s m args below meth c D cid ad A nL cells slots Q pc lv st h := fun H locs ls hP hD hS hl => lv_iload G.1 G.2.1 d (ax_lget hl hv) (k H locs ls hP hD hS hl)
theorem ax_lload_n (G : ax_G p s m args meth c Ts own cc nL D cid ad A) {k4 : Fin 4} {i : Nat} {x : Int64} (d : decode cc pc = .ok (.lload_n k4, 1)) (hi : (k4 : Nat) = i) (hv : ax_q i lv = some (.long x)) (k : ax_V p l e R s m args below meth c D cid ad A nL cells slots Q (pc + 1) lv (.long x :: st) h) : ax_V p l e R s m args below meth c D cid ad A nL cells slots Q pc lv st h := fun H locs ls hP hD hS hl => lv_lload_n G.1 G.2.1 d hi (ax_lget hl hv) (k H locs ls hP hD hS hl)
theorem ax_lload (G : ax_G p s m args meth c Ts own cc nL D cid ad A) {i : Nat} {x : Int64} (d : decode cc pc = .ok (.lload i, 2)) (hv : ax_q i lv = some (.long x)) (k : ax_V p l e R s m args below meth c D cid ad A nL cells slots Q (pc + 2) lv (.long x :: st) h) : ax_V p l e R s m args below meth c D cid ad A nL cells slots Q pc lv st h := fun H locs ls hP hD hS hl => lv_lload G.1 G.2.1 d (ax_lget hl hv) (k H locs ls hP hD hS hl)
theorem ax_aload_n (G : ax_G p s m args meth c Ts own cc nL D cid ad A) {k4 : Fin 4} {i : Nat} {x : Nat} (d : decode cc pc = .ok (.aload_n k4, 1)) (hi : (k4 : Nat) = i) (hv : ax_q i lv = some (.ref x)) (k : ax_V p l e R s m args below meth c D cid ad A nL cells slots Q (pc + 1) lv (.ref x :: st) h) : ax_V p l e R s m args below meth c D cid ad A nL cells slots Q pc lv st h := fun H locs ls hP hD hS hl => lv_aload_n G.1 G.2.1 d hi (ax_lget hl hv) (k H locs ls hP hD hS hl)
theorem ax_aload (G : ax_G p s m args meth c Ts own cc nL D cid ad A) {i : Nat} {x : Nat} (d : decode cc pc = .ok (.aload i, 2)) (hv : ax_q i lv = some (.ref x)) (k : ax_V p l e R s m args below meth c D cid ad A nL cells slots Q (pc + 2) lv (.ref x :: st) h) : ax_V p l e R s m args below meth c D cid ad A nL cells slots Q pc lv st h := fun H locs ls hP hD hS hl => lv_aload G.1 G.2.1 d (ax_lget hl hv) (k H locs ls hP hD hS hl)
theorem ax_istore_n (G : ax_G p s m args meth c Ts own cc nL D cid ad A) {k4 : Fin 4} {i : Nat} {x : Int32} (d : decode cc pc = .ok (.istore_n k4, 1)) (hi : (k4 : Nat) = i) (hn : i < nL) (k : ax_V p l e R s m args below meth c D cid ad A nL cells slots Q (pc + 1) (ax_s1 i (.int x) lv) st h) : ax_V p l e R s m args below meth c D cid ad A nL cells slots Q pc lv (.int x :: st) h := fun H locs ls hP hD hS hl => lv_istore_n G.1 G.2.1 d hi hl hn rfl (fun ls' hl' => k H locs ls' hP hD hS (ax_lput1 hl'))
theorem ax_istore (G : ax_G p s m args meth c Ts own cc nL D cid ad A) {i : Nat} {x : Int32} (d : decode cc pc = .ok (.istore i, 2)) (hn : i < nL) (k : ax_V p l e R s m args below meth c D cid ad A nL cells slots Q (pc + 2) (ax_s1 i (.int x) lv) st h) : ax_V p l e R s m args below meth c D cid ad A nL cells slots Q pc lv (.int x :: st) h := fun H locs ls hP hD hS hl => lv_istore G.1 G.2.1 d hl hn rfl (fun ls' hl' => k H locs ls' hP hD hS (ax_lput1 hl'))
theorem ax_lstore_n (G : ax_G p s m args meth c Ts own cc nL D cid ad A) {k4 : Fin 4} {i : Nat} {x : Int64} (d : decode cc pc = .ok (.lstore_n k4, 1)) (hi : (k4 : Nat) = i) (hn : i + 1 < nL) (k : ax_V p l e R s m args below meth c D cid ad A nL cells slots Q (pc + 1) (ax_s2 i (.long x) lv) st h) : ax_V p l e R s m args below meth c D cid ad A nL cells slots Q pc lv (.long x :: st) h := fun H locs ls hP hD hS hl => lv_lstore_n G.1 G.2.1 d hi hl hn rfl (fun ls' hl' => k H locs ls' hP hD hS (ax_lput2 hl'))
theorem ax_lstore (G : ax_G p s m args meth c Ts own cc nL D cid ad A) {i : Nat} {x : Int64} (d : decode cc pc = .ok (.lstore i, 2)) (hn : i + 1 < nL) (k : ax_V p l e R s m args below meth c D cid ad A nL cells slots Q (pc + 2) (ax_s2 i (.long x) lv) st h) : ax_V p l e R s m args below meth c D cid ad A nL cells slots Q pc lv (.long x :: st) h := fun H locs ls hP hD hS hl => lv_lstore G.1 G.2.1 d hl hn rfl (fun ls' hl' => k H locs ls' hP hD hS (ax_lput2 hl'))
theorem ax_astore_n (G : ax_G p s m args meth c Ts own cc nL D cid ad A) {k4 : Fin 4} {i : Nat} {x : Nat} (d : decode cc pc = .ok (.astore_n k4, 1)) (hi : (k4 : Nat) = i) (hn : i < nL) (k : ax_V p l e R s m args below meth c D cid ad A nL cells slots Q (pc + 1) (ax_s1 i (.ref x) lv) st h) : ax_V p l e R s m args below meth c D cid ad A nL cells slots Q pc lv (.ref x :: st) h := fun H locs ls hP hD hS hl => lv_astore_n G.1 G.2.1 d hi hl hn rfl (fun ls' hl' => k H locs ls' hP hD hS (ax_lput1 hl'))
theorem ax_astore (G : ax_G p s m args meth c Ts own cc nL D cid ad A) {i : Nat} {x : Nat} (d : decode cc pc = .ok (.astore i, 2)) (hn : i < nL) (k : ax_V p l e R s m args below meth c D cid ad A nL cells slots Q (pc + 2) (ax_s1 i (.ref x) lv) st h) : ax_V p l e R s m args below meth c D cid ad A nL cells slots Q pc lv (.ref x :: st) h := fun H locs ls hP hD hS hl => lv_astore G.1 G.2.1 d hl hn rfl (fun ls' hl' => k H locs ls' hP hD hS (ax_lput1 hl'))
theorem ax_iinc (G : ax_G p s m args meth c Ts own cc nL D cid ad A) {i : Nat} {n : Int} {x v : Int32} (d : decode cc pc = .ok (.iinc i n, 3)) (hv : ax_q i lv = some (.int x)) (he : x + Int32.ofInt n = v) (hn : i < nL) (k : ax_V p l e R s m args below meth c D cid ad A nL cells slots Q (pc + 3) (ax_s1 i (.int v) lv) st h) : ax_V p l e R s m args below meth c D cid ad A nL cells slots Q pc lv st h := by
  intro H locs ls hP hD hS hl
  obtain ⟨j, hj⟩ := ax_lix (ad := ad) hv
  exact lv_iinc G.1 G.2.1 d hl (k := j) hj he hn rfl (fun ls' hl' => k H locs ls' hP hD hS (ax_lput1 (v := .int v) hl'))
theorem ax_iadd (G : ax_G p s m args meth c Ts own cc nL D cid ad A) {x y : Int32} (d : decode cc pc = .ok (.iadd, 1))  (k : ax_V p l e R s m args below meth c D cid ad A nL cells slots Q (pc + 1) lv (.int (x + y) :: st) h) : ax_V p l e R s m args below meth c D cid ad A nL cells slots Q pc lv (.int y :: .int x :: st) h := fun H locs ls hP hD hS hl => lv_iadd G.1 G.2.1 d  (k H locs ls hP hD hS hl)
theorem ax_isub (G : ax_G p s m args meth c Ts own cc nL D cid ad A) {x y : Int32} (d : decode cc pc = .ok (.isub, 1))  (k : ax_V p l e R s m args below meth c D cid ad A nL cells slots Q (pc + 1) lv (.int (x - y) :: st) h) : ax_V p l e R s m args below meth c D cid ad A nL cells slots Q pc lv (.int y :: .int x :: st) h := fun H locs ls hP hD hS hl => lv_isub G.1 G.2.1 d  (k H locs ls hP hD hS hl)
theorem ax_imul (G : ax_G p s m args meth c Ts own cc nL D cid ad A) {x y : Int32} (d : decode cc pc = .ok (.imul, 1))  (k : ax_V p l e R s m args below meth c D cid ad A nL cells slots Q (pc + 1) lv (.int (x * y) :: st) h) : ax_V p l e R s m args below meth c D cid ad A nL cells slots Q pc lv (.int y :: .int x :: st) h := fun H locs ls hP hD hS hl => lv_imul G.1 G.2.1 d  (k H locs ls hP hD hS hl)
theorem ax_iand (G : ax_G p s m args meth c Ts own cc nL D cid ad A) {x y : Int32} (d : decode cc pc = .ok (.iand, 1))  (k : ax_V p l e R s m args below meth c D cid ad A nL cells slots Q (pc + 1) lv (.int (x &&& y) :: st) h) : ax_V p l e R s m args below meth c D cid ad A nL cells slots Q pc lv (.int y :: .int x :: st) h := fun H locs ls hP hD hS hl => lv_iand G.1 G.2.1 d  (k H locs ls hP hD hS hl)
theorem ax_ior (G : ax_G p s m args meth c Ts own cc nL D cid ad A) {x y : Int32} (d : decode cc pc = .ok (.ior, 1))  (k : ax_V p l e R s m args below meth c D cid ad A nL cells slots Q (pc + 1) lv (.int (x ||| y) :: st) h) : ax_V p l e R s m args below meth c D cid ad A nL cells slots Q pc lv (.int y :: .int x :: st) h := fun H locs ls hP hD hS hl => lv_ior G.1 G.2.1 d  (k H locs ls hP hD hS hl)
theorem ax_ixor (G : ax_G p s m args meth c Ts own cc nL D cid ad A) {x y : Int32} (d : decode cc pc = .ok (.ixor, 1))  (k : ax_V p l e R s m args below meth c D cid ad A nL cells slots Q (pc + 1) lv (.int (x ^^^ y) :: st) h) : ax_V p l e R s m args below meth c D cid ad A nL cells slots Q pc lv (.int y :: .int x :: st) h := fun H locs ls hP hD hS hl => lv_ixor G.1 G.2.1 d  (k H locs ls hP hD hS hl)
theorem ax_ishl (G : ax_G p s m args meth c Ts own cc nL D cid ad A) {x y : Int32} (d : decode cc pc = .ok (.ishl, 1))  (k : ax_V p l e R s m args below meth c D cid ad A nL cells slots Q (pc + 1) lv (.int (x <<< (y &&& 31)) :: st) h) : ax_V p l e R s m args below meth c D cid ad A nL cells slots Q pc lv (.int y :: .int x :: st) h := fun H locs ls hP hD hS hl => lv_ishl G.1 G.2.1 d  (k H locs ls hP hD hS hl)
theorem ax_ishr (G : ax_G p s m args meth c Ts own cc nL D cid ad A) {x y : Int32} (d : decode cc pc = .ok (.ishr, 1))  (k : ax_V p l e R s m args below meth c D cid ad A nL cells slots Q (pc + 1) lv (.int (x >>> (y &&& 31)) :: st) h) : ax_V p l e R s m args below meth c D cid ad A nL cells slots Q pc lv (.int y :: .int x :: st) h := fun H locs ls hP hD hS hl => lv_ishr G.1 G.2.1 d  (k H locs ls hP hD hS hl)
theorem ax_idiv (G : ax_G p s m args meth c Ts own cc nL D cid ad A) {x y : Int32} (d : decode cc pc = .ok (.idiv, 1)) (hne : ¬ y = 0) (k : ax_V p l e R s m args below meth c D cid ad A nL cells slots Q (pc + 1) lv (.int (x / y) :: st) h) : ax_V p l e R s m args below meth c D cid ad A nL cells slots Q pc lv (.int y :: .int x :: st) h := fun H locs ls hP hD hS hl => lv_idiv G.1 G.2.1 d hne (k H locs ls hP hD hS hl)
theorem ax_irem (G : ax_G p s m args meth c Ts own cc nL D cid ad A) {x y : Int32} (d : decode cc pc = .ok (.irem, 1)) (hne : ¬ y = 0) (k : ax_V p l e R s m args below meth c D cid ad A nL cells slots Q (pc + 1) lv (.int (x - x / y * y) :: st) h) : ax_V p l e R s m args below meth c D cid ad A nL cells slots Q pc lv (.int y :: .int x :: st) h := fun H locs ls hP hD hS hl => lv_irem G.1 G.2.1 d hne (k H locs ls hP hD hS hl)
theorem ax_ladd (G : ax_G p s m args meth c Ts own cc nL D cid ad A) {x y : Int64} (d : decode cc pc = .ok (.ladd, 1))  (k : ax_V p l e R s m args below meth c D cid ad A nL cells slots Q (pc + 1) lv (.long (x + y) :: st) h) : ax_V p l e R s m args below meth c D cid ad A nL cells slots Q pc lv (.long y :: .long x :: st) h := fun H locs ls hP hD hS hl => lv_ladd G.1 G.2.1 d  (k H locs ls hP hD hS hl)
theorem ax_lsub (G : ax_G p s m args meth c Ts own cc nL D cid ad A) {x y : Int64} (d : decode cc pc = .ok (.lsub, 1))  (k : ax_V p l e R s m args below meth c D cid ad A nL cells slots Q (pc + 1) lv (.long (x - y) :: st) h) : ax_V p l e R s m args below meth c D cid ad A nL cells slots Q pc lv (.long y :: .long x :: st) h := fun H locs ls hP hD hS hl => lv_lsub G.1 G.2.1 d  (k H locs ls hP hD hS hl)
theorem ax_lmul (G : ax_G p s m args meth c Ts own cc nL D cid ad A) {x y : Int64} (d : decode cc pc = .ok (.lmul, 1))  (k : ax_V p l e R s m args below meth c D cid ad A nL cells slots Q (pc + 1) lv (.long (x * y) :: st) h) : ax_V p l e R s m args below meth c D cid ad A nL cells slots Q pc lv (.long y :: .long x :: st) h := fun H locs ls hP hD hS hl => lv_lmul G.1 G.2.1 d  (k H locs ls hP hD hS hl)
theorem ax_land (G : ax_G p s m args meth c Ts own cc nL D cid ad A) {x y : Int64} (d : decode cc pc = .ok (.land, 1))  (k : ax_V p l e R s m args below meth c D cid ad A nL cells slots Q (pc + 1) lv (.long (x &&& y) :: st) h) : ax_V p l e R s m args below meth c D cid ad A nL cells slots Q pc lv (.long y :: .long x :: st) h := fun H locs ls hP hD hS hl => lv_land G.1 G.2.1 d  (k H locs ls hP hD hS hl)
theorem ax_lor (G : ax_G p s m args meth c Ts own cc nL D cid ad A) {x y : Int64} (d : decode cc pc = .ok (.lor, 1))  (k : ax_V p l e R s m args below meth c D cid ad A nL cells slots Q (pc + 1) lv (.long (x ||| y) :: st) h) : ax_V p l e R s m args below meth c D cid ad A nL cells slots Q pc lv (.long y :: .long x :: st) h := fun H locs ls hP hD hS hl => lv_lor G.1 G.2.1 d  (k H locs ls hP hD hS hl)
theorem ax_lxor (G : ax_G p s m args meth c Ts own cc nL D cid ad A) {x y : Int64} (d : decode cc pc = .ok (.lxor, 1))  (k : ax_V p l e R s m args below meth c D cid ad A nL cells slots Q (pc + 1) lv (.long (x ^^^ y) :: st) h) : ax_V p l e R s m args below meth c D cid ad A nL cells slots Q pc lv (.long y :: .long x :: st) h := fun H locs ls hP hD hS hl => lv_lxor G.1 G.2.1 d  (k H locs ls hP hD hS hl)
theorem ax_ldiv (G : ax_G p s m args meth c Ts own cc nL D cid ad A) {x y : Int64} (d : decode cc pc = .ok (.ldiv, 1)) (hne : ¬ y = 0) (k : ax_V p l e R s m args below meth c D cid ad A nL cells slots Q (pc + 1) lv (.long (x / y) :: st) h) : ax_V p l e R s m args below meth c D cid ad A nL cells slots Q pc lv (.long y :: .long x :: st) h := fun H locs ls hP hD hS hl => lv_ldiv G.1 G.2.1 d hne (k H locs ls hP hD hS hl)
theorem ax_lrem (G : ax_G p s m args meth c Ts own cc nL D cid ad A) {x y : Int64} (d : decode cc pc = .ok (.lrem, 1)) (hne : ¬ y = 0) (k : ax_V p l e R s m args below meth c D cid ad A nL cells slots Q (pc + 1) lv (.long (x - x / y * y) :: st) h) : ax_V p l e R s m args below meth c D cid ad A nL cells slots Q pc lv (.long y :: .long x :: st) h := fun H locs ls hP hD hS hl => lv_lrem G.1 G.2.1 d hne (k H locs ls hP hD hS hl)
theorem ax_ineg (G : ax_G p s m args meth c Ts own cc nL D cid ad A) {x : Int32} (d : decode cc pc = .ok (.ineg, 1))  (k : ax_V p l e R s m args below meth c D cid ad A nL cells slots Q (pc + 1) lv (.int (-x) :: st) h) : ax_V p l e R s m args below meth c D cid ad A nL cells slots Q pc lv (.int x :: st) h := fun H locs ls hP hD hS hl => lv_ineg G.1 G.2.1 d (k H locs ls hP hD hS hl)
theorem ax_lneg (G : ax_G p s m args meth c Ts own cc nL D cid ad A) {x : Int64} (d : decode cc pc = .ok (.lneg, 1))  (k : ax_V p l e R s m args below meth c D cid ad A nL cells slots Q (pc + 1) lv (.long (-x) :: st) h) : ax_V p l e R s m args below meth c D cid ad A nL cells slots Q pc lv (.long x :: st) h := fun H locs ls hP hD hS hl => lv_lneg G.1 G.2.1 d (k H locs ls hP hD hS hl)
theorem ax_iushr (G : ax_G p s m args meth c Ts own cc nL D cid ad A) {x y : Int32} (d : decode cc pc = .ok (.iushr, 1))  (k : ax_V p l e R s m args below meth c D cid ad A nL cells slots Q (pc + 1) lv (.int (x.toUInt32 >>> (y.toUInt32 &&& Int32.toUInt32 31)).toInt32 :: st) h) : ax_V p l e R s m args below meth c D cid ad A nL cells slots Q pc lv (.int y :: .int x :: st) h := fun H locs ls hP hD hS hl => lv_iushr G.1 G.2.1 d rfl (k H locs ls hP hD hS hl)
theorem ax_lushr (G : ax_G p s m args meth c Ts own cc nL D cid ad A) {x : Int64} {y : Int32} (d : decode cc pc = .ok (.lushr, 1))  (k : ax_V p l e R s m args below meth c D cid ad A nL cells slots Q (pc + 1) lv (.long (x.toUInt64 >>> (y.toInt64.toUInt64 &&& Int64.toUInt64 63)).toInt64 :: st) h) : ax_V p l e R s m args below meth c D cid ad A nL cells slots Q pc lv (.int y :: .long x :: st) h := fun H locs ls hP hD hS hl => lv_lushr G.1 G.2.1 d rfl (k H locs ls hP hD hS hl)
theorem ax_lshl (G : ax_G p s m args meth c Ts own cc nL D cid ad A) {x : Int64} {y : Int32} (d : decode cc pc = .ok (.lshl, 1))  (k : ax_V p l e R s m args below meth c D cid ad A nL cells slots Q (pc + 1) lv (.long (x <<< (y.toInt64 &&& 63)) :: st) h) : ax_V p l e R s m args below meth c D cid ad A nL cells slots Q pc lv (.int y :: .long x :: st) h := fun H locs ls hP hD hS hl => lv_lshl G.1 G.2.1 d rfl (k H locs ls hP hD hS hl)
theorem ax_lshr (G : ax_G p s m args meth c Ts own cc nL D cid ad A) {x : Int64} {y : Int32} (d : decode cc pc = .ok (.lshr, 1))  (k : ax_V p l e R s m args below meth c D cid ad A nL cells slots Q (pc + 1) lv (.long (x >>> (y.toInt64 &&& 63)) :: st) h) : ax_V p l e R s m args below meth c D cid ad A nL cells slots Q pc lv (.int y :: .long x :: st) h := fun H locs ls hP hD hS hl => lv_lshr G.1 G.2.1 d rfl (k H locs ls hP hD hS hl)
theorem ax_i2l (G : ax_G p s m args meth c Ts own cc nL D cid ad A) {x : Int32} (d : decode cc pc = .ok (.i2l, 1))  (k : ax_V p l e R s m args below meth c D cid ad A nL cells slots Q (pc + 1) lv (.long x.toInt64 :: st) h) : ax_V p l e R s m args below meth c D cid ad A nL cells slots Q pc lv (.int x :: st) h := fun H locs ls hP hD hS hl => lv_i2l G.1 G.2.1 d rfl (k H locs ls hP hD hS hl)
theorem ax_l2i (G : ax_G p s m args meth c Ts own cc nL D cid ad A) {x : Int64} (d : decode cc pc = .ok (.l2i, 1))  (k : ax_V p l e R s m args below meth c D cid ad A nL cells slots Q (pc + 1) lv (.int x.toInt32 :: st) h) : ax_V p l e R s m args below meth c D cid ad A nL cells slots Q pc lv (.long x :: st) h := fun H locs ls hP hD hS hl => lv_l2i G.1 G.2.1 d rfl (k H locs ls hP hD hS hl)
theorem ax_i2b (G : ax_G p s m args meth c Ts own cc nL D cid ad A) {x : Int32} (d : decode cc pc = .ok (.i2b, 1))  (k : ax_V p l e R s m args below meth c D cid ad A nL cells slots Q (pc + 1) lv (.int x.toInt8.toInt32 :: st) h) : ax_V p l e R s m args below meth c D cid ad A nL cells slots Q pc lv (.int x :: st) h := fun H locs ls hP hD hS hl => lv_i2b G.1 G.2.1 d rfl (k H locs ls hP hD hS hl)
theorem ax_i2c (G : ax_G p s m args meth c Ts own cc nL D cid ad A) {x : Int32} (d : decode cc pc = .ok (.i2c, 1))  (k : ax_V p l e R s m args below meth c D cid ad A nL cells slots Q (pc + 1) lv (.int (x.toUInt32 % 65536).toInt32 :: st) h) : ax_V p l e R s m args below meth c D cid ad A nL cells slots Q pc lv (.int x :: st) h := fun H locs ls hP hD hS hl => lv_i2c G.1 G.2.1 d rfl (k H locs ls hP hD hS hl)
theorem ax_lcmp (G : ax_G p s m args meth c Ts own cc nL D cid ad A) {x y : Int64} (d : decode cc pc = .ok (.lcmp, 1))  (k : ax_V p l e R s m args below meth c D cid ad A nL cells slots Q (pc + 1) lv (.int (lg_cmp x y) :: st) h) : ax_V p l e R s m args below meth c D cid ad A nL cells slots Q pc lv (.long y :: .long x :: st) h := fun H locs ls hP hD hS hl => W.lcmp G.1 G.2.1 d (k H locs ls hP hD hS hl)
theorem ax_dup (G : ax_G p s m args meth c Ts own cc nL D cid ad A) {v : Value} (d : decode cc pc = .ok (.dup, 1)) (hc : v.category = 1) (k : ax_V p l e R s m args below meth c D cid ad A nL cells slots Q (pc + 1) lv (v :: v :: st) h) : ax_V p l e R s m args below meth c D cid ad A nL cells slots Q pc lv (v :: st) h := fun H locs ls hP hD hS hl => lv_dup G.1 G.2.1 d (by rw [ax_vc]; exact hc) (k H locs ls hP hD hS hl)
theorem ax_pop (G : ax_G p s m args meth c Ts own cc nL D cid ad A) {v : Value} (d : decode cc pc = .ok (.pop, 1)) (hc : v.category = 1) (k : ax_V p l e R s m args below meth c D cid ad A nL cells slots Q (pc + 1) lv st h) : ax_V p l e R s m args below meth c D cid ad A nL cells slots Q pc lv (v :: st) h := fun H locs ls hP hD hS hl => lv_pop G.1 G.2.1 d (by rw [ax_vc]; exact hc) (k H locs ls hP hD hS hl)
theorem ax_dup_x1 (G : ax_G p s m args meth c Ts own cc nL D cid ad A) {v w : Value} (d : decode cc pc = .ok (.dup_x1, 1)) (hc : v.category = 1) (hc2 : w.category = 1) (k : ax_V p l e R s m args below meth c D cid ad A nL cells slots Q (pc + 1) lv (v :: w :: v :: st) h) : ax_V p l e R s m args below meth c D cid ad A nL cells slots Q pc lv (v :: w :: st) h := fun H locs ls hP hD hS hl => lv_dup_x1 G.1 G.2.1 d (by rw [ax_vc]; exact hc) (by rw [ax_vc]; exact hc2) (k H locs ls hP hD hS hl)
theorem ax_dup_x2 (G : ax_G p s m args meth c Ts own cc nL D cid ad A) {v w z : Value} (d : decode cc pc = .ok (.dup_x2, 1)) (hc : v.category = 1) (hc2 : w.category = 1) (hc3 : z.category = 1) (k : ax_V p l e R s m args below meth c D cid ad A nL cells slots Q (pc + 1) lv (v :: w :: z :: v :: st) h) : ax_V p l e R s m args below meth c D cid ad A nL cells slots Q pc lv (v :: w :: z :: st) h := fun H locs ls hP hD hS hl => lv_dup_x2 G.1 G.2.1 d (by rw [ax_vc]; exact hc) (by rw [ax_vc]; exact hc2) (by rw [ax_vc]; exact hc3) (k H locs ls hP hD hS hl)
theorem ax_dup2_11 (G : ax_G p s m args meth c Ts own cc nL D cid ad A) {v w : Value} (d : decode cc pc = .ok (.dup2, 1)) (hc : v.category = 1) (hc2 : w.category = 1) (k : ax_V p l e R s m args below meth c D cid ad A nL cells slots Q (pc + 1) lv (v :: w :: v :: w :: st) h) : ax_V p l e R s m args below meth c D cid ad A nL cells slots Q pc lv (v :: w :: st) h := fun H locs ls hP hD hS hl => lv_dup2_11 G.1 G.2.1 d (by rw [ax_vc]; exact hc) (by rw [ax_vc]; exact hc2) (k H locs ls hP hD hS hl)
theorem ax_dup2_2 (G : ax_G p s m args meth c Ts own cc nL D cid ad A) {v : Value} (d : decode cc pc = .ok (.dup2, 1)) (hc : v.category = 2) (k : ax_V p l e R s m args below meth c D cid ad A nL cells slots Q (pc + 1) lv (v :: v :: st) h) : ax_V p l e R s m args below meth c D cid ad A nL cells slots Q pc lv (v :: st) h := fun H locs ls hP hD hS hl => lv_dup2_2 G.1 G.2.1 d (by rw [ax_vc]; exact hc) (k H locs ls hP hD hS hl)
theorem ax_pop2_2 (G : ax_G p s m args meth c Ts own cc nL D cid ad A) {v : Value} (d : decode cc pc = .ok (.pop2, 1)) (hc : v.category = 2) (k : ax_V p l e R s m args below meth c D cid ad A nL cells slots Q (pc + 1) lv st h) : ax_V p l e R s m args below meth c D cid ad A nL cells slots Q pc lv (v :: st) h := fun H locs ls hP hD hS hl => lv_pop2_2 G.1 G.2.1 d (by rw [ax_vc]; exact hc) (k H locs ls hP hD hS hl)
theorem ax_dup2_x1_2 (G : ax_G p s m args meth c Ts own cc nL D cid ad A) {v w : Value} (d : decode cc pc = .ok (.dup2_x1, 1)) (hc : v.category = 2) (hc2 : w.category = 1) (k : ax_V p l e R s m args below meth c D cid ad A nL cells slots Q (pc + 1) lv (v :: w :: v :: st) h) : ax_V p l e R s m args below meth c D cid ad A nL cells slots Q pc lv (v :: w :: st) h := fun H locs ls hP hD hS hl => lv_dup2_x1_2 G.1 G.2.1 d (by rw [ax_vc]; exact hc) (by rw [ax_vc]; exact hc2) (k H locs ls hP hD hS hl)
theorem ax_dup2_x2_2 (G : ax_G p s m args meth c Ts own cc nL D cid ad A) {v w z : Value} (d : decode cc pc = .ok (.dup2_x2, 1)) (hc : v.category = 2) (hc2 : w.category = 1) (hc3 : z.category = 1) (k : ax_V p l e R s m args below meth c D cid ad A nL cells slots Q (pc + 1) lv (v :: w :: z :: v :: st) h) : ax_V p l e R s m args below meth c D cid ad A nL cells slots Q pc lv (v :: w :: z :: st) h := fun H locs ls hP hD hS hl => lv_dup2_x2_2 G.1 G.2.1 d (by rw [ax_vc]; exact hc) (by rw [ax_vc]; exact hc2) (by rw [ax_vc]; exact hc3) (k H locs ls hP hD hS hl)
theorem ax_if_eq (G : ax_G p s m args meth c Ts own cc nL D cid ad A) {x : Int32} {off : Int} {tgt : Nat} (d : decode cc pc = .ok (.ifCond .eq off, 3)) (ht : (pc : Int) + off = (tgt : Int)) (kt : x = 0 → ax_V p l e R s m args below meth c D cid ad A nL cells slots Q tgt lv st h) (kf : ¬ x = 0 → ax_V p l e R s m args below meth c D cid ad A nL cells slots Q (pc + 3) lv st h) : ax_V p l e R s m args below meth c D cid ad A nL cells slots Q pc lv (.int x :: st) h := fun H locs ls hP hD hS hl => lv_if_eq G.1 G.2.1 d ht (fun z => kt z H locs ls hP hD hS hl) (fun z => kf z H locs ls hP hD hS hl)
theorem ax_if_ne (G : ax_G p s m args meth c Ts own cc nL D cid ad A) {x : Int32} {off : Int} {tgt : Nat} (d : decode cc pc = .ok (.ifCond .ne off, 3)) (ht : (pc : Int) + off = (tgt : Int)) (kt : ¬ x = 0 → ax_V p l e R s m args below meth c D cid ad A nL cells slots Q tgt lv st h) (kf : x = 0 → ax_V p l e R s m args below meth c D cid ad A nL cells slots Q (pc + 3) lv st h) : ax_V p l e R s m args below meth c D cid ad A nL cells slots Q pc lv (.int x :: st) h := fun H locs ls hP hD hS hl => lv_if_ne G.1 G.2.1 d ht (fun z => kt z H locs ls hP hD hS hl) (fun z => kf z H locs ls hP hD hS hl)
theorem ax_if_lt (G : ax_G p s m args meth c Ts own cc nL D cid ad A) {x : Int32} {off : Int} {tgt : Nat} (d : decode cc pc = .ok (.ifCond .lt off, 3)) (ht : (pc : Int) + off = (tgt : Int)) (kt : x < 0 → ax_V p l e R s m args below meth c D cid ad A nL cells slots Q tgt lv st h) (kf : ¬ x < 0 → ax_V p l e R s m args below meth c D cid ad A nL cells slots Q (pc + 3) lv st h) : ax_V p l e R s m args below meth c D cid ad A nL cells slots Q pc lv (.int x :: st) h := fun H locs ls hP hD hS hl => lv_if_lt G.1 G.2.1 d ht (fun z => kt z H locs ls hP hD hS hl) (fun z => kf z H locs ls hP hD hS hl)
theorem ax_if_ge (G : ax_G p s m args meth c Ts own cc nL D cid ad A) {x : Int32} {off : Int} {tgt : Nat} (d : decode cc pc = .ok (.ifCond .ge off, 3)) (ht : (pc : Int) + off = (tgt : Int)) (kt : 0 ≤ x → ax_V p l e R s m args below meth c D cid ad A nL cells slots Q tgt lv st h) (kf : ¬ 0 ≤ x → ax_V p l e R s m args below meth c D cid ad A nL cells slots Q (pc + 3) lv st h) : ax_V p l e R s m args below meth c D cid ad A nL cells slots Q pc lv (.int x :: st) h := fun H locs ls hP hD hS hl => lv_if_ge G.1 G.2.1 d ht (fun z => kt z H locs ls hP hD hS hl) (fun z => kf z H locs ls hP hD hS hl)
theorem ax_if_gt (G : ax_G p s m args meth c Ts own cc nL D cid ad A) {x : Int32} {off : Int} {tgt : Nat} (d : decode cc pc = .ok (.ifCond .gt off, 3)) (ht : (pc : Int) + off = (tgt : Int)) (kt : 0 < x → ax_V p l e R s m args below meth c D cid ad A nL cells slots Q tgt lv st h) (kf : ¬ 0 < x → ax_V p l e R s m args below meth c D cid ad A nL cells slots Q (pc + 3) lv st h) : ax_V p l e R s m args below meth c D cid ad A nL cells slots Q pc lv (.int x :: st) h := fun H locs ls hP hD hS hl => lv_if_gt G.1 G.2.1 d ht (fun z => kt z H locs ls hP hD hS hl) (fun z => kf z H locs ls hP hD hS hl)
theorem ax_if_le (G : ax_G p s m args meth c Ts own cc nL D cid ad A) {x : Int32} {off : Int} {tgt : Nat} (d : decode cc pc = .ok (.ifCond .le off, 3)) (ht : (pc : Int) + off = (tgt : Int)) (kt : x ≤ 0 → ax_V p l e R s m args below meth c D cid ad A nL cells slots Q tgt lv st h) (kf : ¬ x ≤ 0 → ax_V p l e R s m args below meth c D cid ad A nL cells slots Q (pc + 3) lv st h) : ax_V p l e R s m args below meth c D cid ad A nL cells slots Q pc lv (.int x :: st) h := fun H locs ls hP hD hS hl => lv_if_le G.1 G.2.1 d ht (fun z => kt z H locs ls hP hD hS hl) (fun z => kf z H locs ls hP hD hS hl)
theorem ax_icmp_eq (G : ax_G p s m args meth c Ts own cc nL D cid ad A) {x y : Int32} {off : Int} {tgt : Nat} (d : decode cc pc = .ok (.if_icmp .eq off, 3)) (ht : (pc : Int) + off = (tgt : Int)) (kt : x = y → ax_V p l e R s m args below meth c D cid ad A nL cells slots Q tgt lv st h) (kf : ¬ x = y → ax_V p l e R s m args below meth c D cid ad A nL cells slots Q (pc + 3) lv st h) : ax_V p l e R s m args below meth c D cid ad A nL cells slots Q pc lv (.int y :: .int x :: st) h := fun H locs ls hP hD hS hl => lv_icmp_eq G.1 G.2.1 d ht (fun z => kt z H locs ls hP hD hS hl) (fun z => kf z H locs ls hP hD hS hl)
theorem ax_icmp_ne (G : ax_G p s m args meth c Ts own cc nL D cid ad A) {x y : Int32} {off : Int} {tgt : Nat} (d : decode cc pc = .ok (.if_icmp .ne off, 3)) (ht : (pc : Int) + off = (tgt : Int)) (kt : ¬ x = y → ax_V p l e R s m args below meth c D cid ad A nL cells slots Q tgt lv st h) (kf : x = y → ax_V p l e R s m args below meth c D cid ad A nL cells slots Q (pc + 3) lv st h) : ax_V p l e R s m args below meth c D cid ad A nL cells slots Q pc lv (.int y :: .int x :: st) h := fun H locs ls hP hD hS hl => lv_icmp_ne G.1 G.2.1 d ht (fun z => kt z H locs ls hP hD hS hl) (fun z => kf z H locs ls hP hD hS hl)
theorem ax_icmp_lt (G : ax_G p s m args meth c Ts own cc nL D cid ad A) {x y : Int32} {off : Int} {tgt : Nat} (d : decode cc pc = .ok (.if_icmp .lt off, 3)) (ht : (pc : Int) + off = (tgt : Int)) (kt : x < y → ax_V p l e R s m args below meth c D cid ad A nL cells slots Q tgt lv st h) (kf : ¬ x < y → ax_V p l e R s m args below meth c D cid ad A nL cells slots Q (pc + 3) lv st h) : ax_V p l e R s m args below meth c D cid ad A nL cells slots Q pc lv (.int y :: .int x :: st) h := fun H locs ls hP hD hS hl => lv_icmp_lt G.1 G.2.1 d ht (fun z => kt z H locs ls hP hD hS hl) (fun z => kf z H locs ls hP hD hS hl)
theorem ax_icmp_ge (G : ax_G p s m args meth c Ts own cc nL D cid ad A) {x y : Int32} {off : Int} {tgt : Nat} (d : decode cc pc = .ok (.if_icmp .ge off, 3)) (ht : (pc : Int) + off = (tgt : Int)) (kt : y ≤ x → ax_V p l e R s m args below meth c D cid ad A nL cells slots Q tgt lv st h) (kf : ¬ y ≤ x → ax_V p l e R s m args below meth c D cid ad A nL cells slots Q (pc + 3) lv st h) : ax_V p l e R s m args below meth c D cid ad A nL cells slots Q pc lv (.int y :: .int x :: st) h := fun H locs ls hP hD hS hl => lv_icmp_ge G.1 G.2.1 d ht (fun z => kt z H locs ls hP hD hS hl) (fun z => kf z H locs ls hP hD hS hl)
theorem ax_icmp_gt (G : ax_G p s m args meth c Ts own cc nL D cid ad A) {x y : Int32} {off : Int} {tgt : Nat} (d : decode cc pc = .ok (.if_icmp .gt off, 3)) (ht : (pc : Int) + off = (tgt : Int)) (kt : y < x → ax_V p l e R s m args below meth c D cid ad A nL cells slots Q tgt lv st h) (kf : ¬ y < x → ax_V p l e R s m args below meth c D cid ad A nL cells slots Q (pc + 3) lv st h) : ax_V p l e R s m args below meth c D cid ad A nL cells slots Q pc lv (.int y :: .int x :: st) h := fun H locs ls hP hD hS hl => lv_icmp_gt G.1 G.2.1 d ht (fun z => kt z H locs ls hP hD hS hl) (fun z => kf z H locs ls hP hD hS hl)
theorem ax_icmp_le (G : ax_G p s m args meth c Ts own cc nL D cid ad A) {x y : Int32} {off : Int} {tgt : Nat} (d : decode cc pc = .ok (.if_icmp .le off, 3)) (ht : (pc : Int) + off = (tgt : Int)) (kt : x ≤ y → ax_V p l e R s m args below meth c D cid ad A nL cells slots Q tgt lv st h) (kf : ¬ x ≤ y → ax_V p l e R s m args below meth c D cid ad A nL cells slots Q (pc + 3) lv st h) : ax_V p l e R s m args below meth c D cid ad A nL cells slots Q pc lv (.int y :: .int x :: st) h := fun H locs ls hP hD hS hl => lv_icmp_le G.1 G.2.1 d ht (fun z => kt z H locs ls hP hD hS hl) (fun z => kf z H locs ls hP hD hS hl)
theorem ax_goto (G : ax_G p s m args meth c Ts own cc nL D cid ad A) {off : Int} {tgt : Nat} (d : decode cc pc = .ok (.goto off, 3)) (ht : (pc : Int) + off = (tgt : Int)) (k : ax_V p l e R s m args below meth c D cid ad A nL cells slots Q tgt lv st h) : ax_V p l e R s m args below meth c D cid ad A nL cells slots Q pc lv st h := fun H locs ls hP hD hS hl => lv_goto G.1 G.2.1 d ht (k H locs ls hP hD hS hl)
theorem ax_iald (G : ax_G p s m args meth c Ts own cc nL D cid ad A) {a q0 n : Nat} {f : Nat → Int32} {i : Int32} (d : decode cc pc = .ok (.iaload, 1)) (ha : ax_f a h = some (q0, .inl (0, n, .inl f))) (hin : vp_in i n) (k : ax_V p l e R s m args below meth c D cid ad A nL cells slots Q (pc + 1) lv (.int (f i.toNatClampNeg) :: st) h) : ax_V p l e R s m args below meth c D cid ad A nL cells slots Q pc lv (.int i :: .ref a :: st) h := fun H locs ls hP hD hS hl => va_iald G.1 G.2.1 G.2.2.2.2.2.1 hP q0 0 (ax_wget (ax_f_spec ha)) rfl hin d (k H locs ls hP hD hS hl)
theorem ax_bald (G : ax_G p s m args meth c Ts own cc nL D cid ad A) {a q0 n : Nat} {f : Nat → Int32} {i : Int32} (d : decode cc pc = .ok (.baload, 1)) (ha : ax_f a h = some (q0, .inl (1, n, .inl f))) (hin : vp_in i n) (k : ax_V p l e R s m args below meth c D cid ad A nL cells slots Q (pc + 1) lv (.int (f i.toNatClampNeg) :: st) h) : ax_V p l e R s m args below meth c D cid ad A nL cells slots Q pc lv (.int i :: .ref a :: st) h := fun H locs ls hP hD hS hl => va_bald G.1 G.2.1 G.2.2.2.2.2.1 hP q0 1 (ax_wget (ax_f_spec ha)) rfl hin d (k H locs ls hP hD hS hl)
theorem ax_lald (G : ax_G p s m args meth c Ts own cc nL D cid ad A) {a q0 n : Nat} {f : Nat → Int64} {i : Int32} (d : decode cc pc = .ok (.laload, 1)) (ha : ax_f a h = some (q0, .inl (2, n, .inr (.inl f)))) (hin : vp_in i n) (k : ax_V p l e R s m args below meth c D cid ad A nL cells slots Q (pc + 1) lv (.long (f i.toNatClampNeg) :: st) h) : ax_V p l e R s m args below meth c D cid ad A nL cells slots Q pc lv (.int i :: .ref a :: st) h := fun H locs ls hP hD hS hl => va_lald G.1 G.2.1 G.2.2.2.2.2.1 hP q0 2 (ax_wget (ax_f_spec ha)) rfl hin d (k H locs ls hP hD hS hl)
theorem ax_iast (G : ax_G p s m args meth c Ts own cc nL D cid ad A) {a q0 n : Nat} {f : Nat → Int32} {i : Int32} {x : Int32} (d : decode cc pc = .ok (.iastore, 1)) (ha : ax_f a h = some (q0, .inl (0, n, .inl f))) (hin : vp_in i n) (k : ax_V p l e R s m args below meth c D cid ad A nL cells slots Q (pc + 1) lv st (h.set q0 (a, .inl (0, n, .inl (upd f i.toNatClampNeg x))))) : ax_V p l e R s m args below meth c D cid ad A nL cells slots Q pc lv (.int x :: .int i :: .ref a :: st) h := fun H locs ls hP hD hS hl => va_iast G.1 G.2.1 G.2.2.2.2.2.1 hP hD hS q0 0 (ax_wget (ax_f_spec ha)) rfl hin d (fun H1 locs1 hP1 hD1 hS1 => k H1 locs1 ls (ax_wsetP hP1) (ax_wsetD hD1) hS1 hl)
theorem ax_bast (G : ax_G p s m args meth c Ts own cc nL D cid ad A) {a q0 n : Nat} {f : Nat → Int32} {i : Int32} {x : Int32} (d : decode cc pc = .ok (.bastore, 1)) (ha : ax_f a h = some (q0, .inl (1, n, .inl f))) (hin : vp_in i n) (k : ax_V p l e R s m args below meth c D cid ad A nL cells slots Q (pc + 1) lv st (h.set q0 (a, .inl (1, n, .inl (upd f i.toNatClampNeg (vp_nar .byte x)))))) : ax_V p l e R s m args below meth c D cid ad A nL cells slots Q pc lv (.int x :: .int i :: .ref a :: st) h := fun H locs ls hP hD hS hl => va_bast G.1 G.2.1 G.2.2.2.2.2.1 hP hD hS q0 1 (ax_wget (ax_f_spec ha)) rfl hin d (fun H1 locs1 hP1 hD1 hS1 => k H1 locs1 ls (ax_wsetP hP1) (ax_wsetD hD1) hS1 hl)
theorem ax_last (G : ax_G p s m args meth c Ts own cc nL D cid ad A) {a q0 n : Nat} {f : Nat → Int64} {i : Int32} {x : Int64} (d : decode cc pc = .ok (.lastore, 1)) (ha : ax_f a h = some (q0, .inl (2, n, .inr (.inl f)))) (hin : vp_in i n) (k : ax_V p l e R s m args below meth c D cid ad A nL cells slots Q (pc + 1) lv st (h.set q0 (a, .inl (2, n, .inr (.inl (vp_updL f i.toNatClampNeg x)))))) : ax_V p l e R s m args below meth c D cid ad A nL cells slots Q pc lv (.long x :: .int i :: .ref a :: st) h := fun H locs ls hP hD hS hl => va_last G.1 G.2.1 G.2.2.2.2.2.1 hP hD hS q0 2 (ax_wget (ax_f_spec ha)) rfl hin d (fun H1 locs1 hP1 hD1 hS1 => k H1 locs1 ls (ax_wsetP hP1) (ax_wsetD hD1) hS1 hl)
theorem ax_alen (G : ax_G p s m args meth c Ts own cc nL D cid ad A) {a q0 t0 : Nat} {x : vp_A} {v : Int32} (d : decode cc pc = .ok (.arraylength, 1)) (ha : ax_f a h = some (q0, .inl (t0, x))) (ht : t0 < 3) (hv : Int32.ofNat x.1 = v) (k : ax_V p l e R s m args below meth c D cid ad A nL cells slots Q (pc + 1) lv (.int v :: st) h) : ax_V p l e R s m args below meth c D cid ad A nL cells slots Q pc lv (.ref a :: st) h := by
  intro H locs ls hP hD hS hl
  obtain ⟨ty, hty⟩ := ax_tyAt cid ht
  exact va_alen G.1 G.2.1 G.2.2.2.2.2.1 hP q0 t0 (ax_wget (ax_f_spec ha)) hty hv d (k H locs ls hP hD hS hl)
theorem ax_get (G : ax_G p s m args meth c Ts own cc nL D cid ad A) {a q0 ci j i : Nat} {fs : List Value} {v : Value} {C : String} {T : u_T} {N : Nat} (d : decode cc pc = .ok (.getfield i, 3)) (ha : ax_f a h = some (q0, .inr (ci, fs))) (hc : ax_cl[ci]? = some (C, T, N)) (hj : j < N) (hw : Cond.fieldLink own i (T j).1 (T j).2.1 (T j).2.2.1 ∈ ax_big) (hv : fs[j]? = some v) (k : ax_V p l e R s m args below meth c D cid ad A nL cells slots Q (pc + 3) lv (v :: st) h) : ax_V p l e R s m args below meth c D cid ad A nL cells slots Q pc lv (.ref a :: st) h := fun H locs ls hP hD hS hl => va_get G.1 G.2.1 G.2.2.2.2.1 (ax_lays G hc) G.2.2.2.1 G.2.2.2.2.2.1 hP q0 (ax_wget (ax_f_spec ha)) hc j hj (ax_say G hw) (fun _ h9 => h9) (ax_fsget hv) d (k H locs ls hP hD hS hl)
theorem ax_put (G : ax_G p s m args meth c Ts own cc nL D cid ad A) {a q0 ci j i : Nat} {fs : List Value} {v : Value} {C : String} {T : u_T} {N : Nat} (d : decode cc pc = .ok (.putfield i, 3)) (ha : ax_f a h = some (q0, .inr (ci, fs))) (hc : ax_cl[ci]? = some (C, T, N)) (hj : j < N) (hw : Cond.fieldLink own i (T j).1 (T j).2.1 (T j).2.2.1 ∈ ax_big) (hfin : (T j).2.2.2 = false) (hn : narrow (ax_ty ci j) v = v) (hfit : fits (ax_ty ci j) v = true) (hl0 : j < fs.length) (k : ax_V p l e R s m args below meth c D cid ad A nL cells slots Q (pc + 3) lv st (h.set q0 (a, .inr (ci, fs.set j v)))) : ax_V p l e R s m args below meth c D cid ad A nL cells slots Q pc lv (v :: .ref a :: st) h := fun H locs ls hP hD hS hl => va_put G.1 G.2.1 G.2.2.2.2.1 (ax_lays G hc) (ax_ty ci) (ax_tyok hc) (ax_names hc) G.2.2.2.1 G.2.2.2.2.2.1 hP hD hS q0 (ax_wget (ax_f_spec ha)) hc j hj (ax_say G hw) (fun _ h9 => h9) hfin (ax_tyok hc j hj) (ax_narrow hn) (ax_fits hfit) (by simpa using hl0) d (fun H1 locs1 hP1 hD1 hS1 => k H1 locs1 ls (ax_wsetFP hP1) (ax_wsetFD hD1) hS1 hl)
theorem ax_getN (G : ax_G p s m args meth c Ts own cc nL D cid ad A) {a q0 ci j i : Nat} {fs : List Value} {v : Value} {C : String} {T : u_T} {N : Nat} {host : String} (d : decode cc pc = .ok (.getfield i, 3)) (ha : ax_f a h = some (q0, .inr (ci, fs))) (hc : ax_cl[ci]? = some (C, T, N)) (hj : j < N) (hw : Cond.fieldLinkNest own i (T j).1 (T j).2.1 (T j).2.2.1 host ∈ ax_nest) (hv : fs[j]? = some v) (k : ax_V p l e R s m args below meth c D cid ad A nL cells slots Q (pc + 3) lv (v :: st) h) : ax_V p l e R s m args below meth c D cid ad A nL cells slots Q pc lv (.ref a :: st) h := fun H locs ls hP hD hS hl => va_getN G.1 G.2.1 G.2.2.2.2.1 (ax_lays G hc) G.2.2.2.1 G.2.2.2.2.2.1 hP q0 (ax_wget (ax_f_spec ha)) hc j hj (va_Nw.use rfl (G.2.2.2.2.2.2.2.2.1 _ hw)) (fun _ h9 => h9) (ax_fsget hv) d (k H locs ls hP hD hS hl)
theorem ax_putN (G : ax_G p s m args meth c Ts own cc nL D cid ad A) {a q0 ci j i : Nat} {fs : List Value} {v : Value} {C : String} {T : u_T} {N : Nat} {host : String} (d : decode cc pc = .ok (.putfield i, 3)) (ha : ax_f a h = some (q0, .inr (ci, fs))) (hc : ax_cl[ci]? = some (C, T, N)) (hj : j < N) (hw : Cond.fieldLinkNest own i (T j).1 (T j).2.1 (T j).2.2.1 host ∈ ax_nest) (hfin : (T j).2.2.2 = false) (hn : narrow (ax_ty ci j) v = v) (hfit : fits (ax_ty ci j) v = true) (hl0 : j < fs.length) (k : ax_V p l e R s m args below meth c D cid ad A nL cells slots Q (pc + 3) lv st (h.set q0 (a, .inr (ci, fs.set j v)))) : ax_V p l e R s m args below meth c D cid ad A nL cells slots Q pc lv (v :: .ref a :: st) h := fun H locs ls hP hD hS hl => va_putN G.1 G.2.1 G.2.2.2.2.1 (ax_lays G hc) (ax_ty ci) (ax_tyok hc) (ax_names hc) G.2.2.2.1 G.2.2.2.2.2.1 hP hD hS q0 (ax_wget (ax_f_spec ha)) hc j hj (va_Nw.use rfl (G.2.2.2.2.2.2.2.2.1 _ hw)) (fun _ h9 => h9) hfin (ax_tyok hc j hj) (ax_narrow hn) (ax_fits hfit) (by simpa using hl0) d (fun H1 locs1 hP1 hD1 hS1 => k H1 locs1 ls (ax_wsetFP hP1) (ax_wsetFD hD1) hS1 hl)
end AXR
end
section
/-! THE ABSTRACT LAYER, 3: the parts of a picture, calls, answers -/
def ax_m (h hc : ax_H) : ax_H := h.map (fun q => (q.1, ((ax_f q.1 hc).map Prod.snd).getD q.2))
def ax_sub : ax_H → ax_H → Prop
  | [], _ => True
  | q :: r, h => (ax_f q.1 h).map Prod.snd = some q.2 ∧ ax_sub r h
theorem ax_sub_at : ∀ {hc h : ax_H}, ax_sub hc h → ∀ q ∈ hc, ∃ i : Nat, h[i]? = some q
  | [], _, _, q, hq => absurd hq List.not_mem_nil
  | x :: r, h, hs, q, hq => by
    rcases List.mem_cons.mp hq with e | e
    · subst e
      cases hf : ax_f q.1 h with
      | none => have := hs.1; rw [hf] at this; simp at this
      | some w =>
        obtain ⟨i, e0⟩ := w
        have h1 := hs.1
        rw [hf] at h1
        simp only [Option.map_some, Option.some.injEq] at h1
        exact ⟨i, by rw [ax_f_spec hf, h1]⟩
    · exact ax_sub_at hs.2 q e
theorem ax_wat {cid : Nat → ClassId} {ad : Nat → Nat} {h : ax_H} {i : Nat} {x : Nat × va_E} (hx : (ax_w cid ad h)[i]? = some x) : ∃ q : Nat × ax_E, h[i]? = some q ∧ x = (ad q.1, ax_e cid ad q.2) := by
  unfold ax_w at hx
  rw [List.getElem?_map] at hx
  cases hq : h[i]? with
  | none => rw [hq] at hx; simp at hx
  | some q => rw [hq] at hx; exact ⟨q, rfl, (Option.some.inj hx).symm⟩
theorem ax_subP {D : va_G} {cid : Nat → ClassId} {ad : Nat → Nat} {h hc : ax_H} {H : Heap} (hP : va_P D ax_cl (ax_w cid ad h) H) (hs : ax_sub hc h) : va_P D ax_cl (ax_w cid ad hc) H := by
  intro k x hx
  obtain ⟨q, hq, rfl⟩ := ax_wat hx
  obtain ⟨i, hi⟩ := ax_sub_at hs q (List.mem_of_getElem? hq)
  exact hP i _ (ax_wget (k := q.1) (e := q.2) hi)
theorem ax_subD {A : Nat → Prop} {cid : Nat → ClassId} {ad : Nat → Nat} {h hc : ax_H} (hD : va_D A (ax_w cid ad h)) (hs : ax_sub hc h) (hn : va_nd (hc.map Prod.fst) = true) : va_D A (ax_w cid ad hc) := by
  refine ⟨fun i j x y hx hy hxy => ?_, fun k x hx => ?_⟩
  · obtain ⟨q, hq, rfl⟩ := ax_wat hx
    obtain ⟨r, hr, rfl⟩ := ax_wat hy
    obtain ⟨i', hi⟩ := ax_sub_at hs q (List.mem_of_getElem? hq)
    obtain ⟨j', hj⟩ := ax_sub_at hs r (List.mem_of_getElem? hr)
    have e := hD.1 i' j' _ _ (ax_wget (k := q.1) (e := q.2) hi) (ax_wget (k := r.1) (e := r.2) hj) hxy
    subst e
    have e2 : q = r := Option.some.inj (hi.symm.trans hj)
    subst e2
    exact va_nd_inj _ hn i j q.1 (by rw [List.getElem?_map, hq]; rfl) (by rw [List.getElem?_map, hr]; rfl)
  · obtain ⟨q, hq, rfl⟩ := ax_wat hx
    obtain ⟨i, hi⟩ := ax_sub_at hs q (List.mem_of_getElem? hq)
    exact hD.2 i _ (ax_wget (k := q.1) (e := q.2) hi)
theorem ax_f_none {k : Nat} : ∀ {h : ax_H}, ax_f k h = none → k ∉ h.map Prod.fst
  | [], _ => by simp
  | q :: h, hh => by
    unfold ax_f at hh
    cases hb : Nat.beq q.1 k with
    | true => rw [hb] at hh; simp at hh
    | false =>
      rw [hb] at hh
      simp only [cond_false, Option.map_eq_none_iff] at hh
      have h1 := ax_f_none hh
      intro hm
      rcases List.mem_cons.mp hm with e | e
      · have : Nat.beq q.1 k = true := by rw [← e]; exact Nat.beq_refl _
        rw [hb] at this
        cases this
      · exact h1 e
theorem ax_subA {A : Nat → Prop} {cid : Nat → ClassId} {ad : Nat → Nat} {h hc : ax_H} {H0 H : Heap} {locs : List Loc} (hD : va_D A (ax_w cid ad h)) (hS : va_S A H0 H locs) (hA : ∀ q, H0.size ≤ q → A q) (hs : ax_sub hc h) : ∀ q, va_A (ax_w cid ad hc) H.size q → A q := by
  intro q hq
  rcases hq with ⟨k, e, h1⟩ | h1
  · obtain ⟨r, hr, e1⟩ := ax_wat h1
    obtain ⟨i, hi⟩ := ax_sub_at hs r (List.mem_of_getElem? hr)
    have := hD.2 i _ (ax_wget (k := r.1) (e := r.2) hi)
    have e2 : q = ad r.1 := congrArg Prod.fst e1
    rw [e2]
    exact this
  · exact hA q (Nat.le_trans hS.1 h1)
theorem ax_mat {h hc : ax_H} {i : Nat} {q : Nat × ax_E} (hq : (ax_m h hc)[i]? = some q) : ∃ e : ax_E, h[i]? = some (q.1, e) ∧ ((∃ j : Nat, hc[j]? = some q) ∨ (q.1 ∉ hc.map Prod.fst ∧ q.2 = e)) := by
  unfold ax_m at hq
  rw [List.getElem?_map] at hq
  cases hx : h[i]? with
  | none => rw [hx] at hq; simp at hq
  | some x =>
    rw [hx] at hq
    have e1 : (x.1, ((ax_f x.1 hc).map Prod.snd).getD x.2) = q := Option.some.inj hq
    cases hf : ax_f x.1 hc with
    | none =>
      rw [hf] at e1
      have e2 : q = (x.1, x.2) := e1.symm
      subst e2
      exact ⟨x.2, rfl, Or.inr ⟨ax_f_none hf, rfl⟩⟩
    | some w =>
      obtain ⟨j, e0⟩ := w
      rw [hf] at e1
      have e2 : q = (x.1, e0) := e1.symm
      subst e2
      exact ⟨x.2, rfl, Or.inl ⟨j, ax_f_spec hf⟩⟩
theorem ax_join {A : Nat → Prop} {D : va_G} {cid : Nat → ClassId} {ad : Nat → Nat} {h hc hc' : ax_H} {H H1 : Heap} (hP : va_P D ax_cl (ax_w cid ad h) H) (hD : va_D A (ax_w cid ad h)) (hs : ax_sub hc h) (hkeys : hc'.map Prod.fst = hc.map Prod.fst)
    (hk : ∀ q : Nat, q < H.size → ¬ va_A (ax_w cid ad hc) H.size q → H1[q]? = H[q]?) (hP1 : va_P D ax_cl (ax_w cid ad hc') H1) : va_P D ax_cl (ax_w cid ad (ax_m h hc')) H1 ∧ va_D A (ax_w cid ad (ax_m h hc')) := by
  refine ⟨fun k x hx => ?_, fun i j x y hx hy hxy => ?_, fun k x hx => ?_⟩
  · obtain ⟨q, hq, rfl⟩ := ax_wat hx
    obtain ⟨e, he, hor⟩ := ax_mat hq
    rcases hor with ⟨j, hj⟩ | ⟨hne, hee⟩
    · exact hP1 j _ (ax_wget (k := q.1) (e := q.2) hj)
    · have hat := hP k _ (ax_wget (cid := cid) (ad := ad) he)
      rw [hee]
      refine va_at.kept hat (hk _ hat.lt ?_)
      rintro (⟨k2, e2, h2⟩ | h2)
      · obtain ⟨r, hr, er⟩ := ax_wat h2
        obtain ⟨i', hi'⟩ := ax_sub_at hs r (List.mem_of_getElem? hr)
        have ead : ad q.1 = ad r.1 := congrArg Prod.fst er
        have e3 := hD.1 k i' _ _ (ax_wget (cid := cid) (ad := ad) he) (ax_wget (k := r.1) (e := r.2) hi') ead
        subst e3
        have e4 : (q.1, e) = r := Option.some.inj (he.symm.trans hi')
        apply hne
        rw [hkeys]
        exact List.mem_map.mpr ⟨r, List.mem_of_getElem? hr, by rw [← e4]⟩
      · exact absurd hat.lt (Nat.not_lt.mpr h2)
  · obtain ⟨q, hq, rfl⟩ := ax_wat hx
    obtain ⟨r, hr, rfl⟩ := ax_wat hy
    obtain ⟨e1, he1, -⟩ := ax_mat hq
    obtain ⟨e2, he2, -⟩ := ax_mat hr
    exact hD.1 i j _ _ (ax_wget (cid := cid) (ad := ad) he1) (ax_wget (cid := cid) (ad := ad) he2) hxy
  · obtain ⟨q, hq, rfl⟩ := ax_wat hx
    obtain ⟨e1, he1, -⟩ := ax_mat hq
    have hz := hD.2 k _ (ax_wget (cid := cid) (ad := ad) he1)
    exact hz
section AXC
variable {p : Program} {l : Launch} {e : Env} {R : Room} {s : State} {m : MethodId} {args : Array Value} {below : List Frame} {meth : Method} {c : Code} {cells slots : Nat} {Q : State → Prop}
variable {D : va_G} {cid : Nat → ClassId} {ad : Nat → Nat} {A : Nat → Prop} {nL : Nat} {Ts : List Cond} {own : String} {cc : ByteArray}
variable {pc : Nat} {lv : List (Nat × Value)} {st : List Value} {h : ax_H}
theorem ax_pre (G : ax_G p s m args meth c Ts own cc nL D cid ad A) {hc : ax_H} {H : Heap} {locs : List Loc} (hP : va_P D ax_cl (ax_w cid ad h) H) (hD : va_D A (ax_w cid ad h)) (hS : va_S A s.heap H locs) (hs : ax_sub hc h) (hn : va_nd (hc.map Prod.fst) = true) {U : State} (hU : U.heap = H) (hW : s.WarmedH U.vm) : ax_Pre D cid ad hc H.size U := by
  obtain ⟨-, -, -, -, -, hK, hA, -, hN, -, hX⟩ := G
  refine ⟨by rw [hU], by rw [hU]; exact ax_subP hP hs, va_K.moved hW.alike hK, (ax_subD hD hs hn).weaken (fun _ _ _ _ => trivial), ax_nest_warm hW hN, ?_⟩
  rw [hU]
  exact (hX.kept hS.2.1).moved hW |>.narrow (ax_subA hD hS hA hs)
theorem ax_blind {as : List Value} {hc : ax_H} {sz : Nat} : FrameBlind (va_Pc as (ax_Pre D cid ad hc sz)) := by
  intro a U g mk q
  obtain ⟨q0, q1, qP, qK, qD, qN, qX⟩ := q
  exact ⟨q0, q1, qP, va_K.moved (u := U) (U := U.calling g mk a) (Vm.Alike.refl U.vm) qK, qD, ax_nest_same (u := U) (U := U.calling g mk a) rfl qN, qX.same (u := U) (U := U.calling g mk a) rfl⟩
theorem ax_goes (G : ax_G p s m args meth c Ts own cc nL D cid ad A) {hc : ax_H} {H : Heap} {locs : List Loc} {ls : Array Slot} {st0 : List Value} {a : Array Value} {Qa : Option Value → ax_H → Prop}
    (hP : va_P D ax_cl (ax_w cid ad h) H) (hD : va_D A (ax_w cid ad h)) (hS : va_S A s.heap H locs) (hl : lv_has ls nL (ax_l ad lv)) (hs : ax_sub hc h)
    (hr : va_Run p l e R s m args below meth c H locs cells slots 0 0 (F0 m pc ls st0) (st.map (ax_v ad)) (ax_Post D cid ad hc H.size Qa a) (va_A (ax_w cid ad hc) H.size))
    (kk : ∀ (r : Option Value) (hc' : ax_H), Qa r hc' → hc'.map Prod.fst = hc.map Prod.fst → ax_V p l e R s m args below meth c D cid ad A nL cells slots Q (pc + 3) lv (r.toList ++ st) (ax_m h hc')) : W p l e R s m args below meth c H locs cells slots Q (F0 m pc ls st0) := by
  have hFc := ax_subA hD hS G.2.2.2.2.2.2.1 hs
  intro T hT X
  obtain ⟨v, st₀, t, T', L, h0, X', hL, e1, e2, ⟨⟨r, hc', hv, hq, hkeys, hP1, hD1⟩, hz, hk⟩, stp⟩ := hr T hT X
  cases hv
  rw [h0] at hz hk
  obtain ⟨hP2, hD2⟩ := ax_join hP hD hs hkeys hk hP1
  have hS2 : va_S A s.heap T'.heap (locs ++ L) := ⟨Nat.le_trans hS.1 (by rw [e1]; exact hz), fun q h1 h2 => by rw [e1, hk q (Nat.lt_of_lt_of_le h1 hS.1) (fun z => h2 (hFc q z))]; exact hS.2.1 q h1 h2, fun q hq => by
      rcases List.mem_append.mp hq with h | h
      · exact hS.2.2 q h
      · exact hFc _ (hL q h)⟩
  obtain ⟨t2, a1, b1⟩ := kk r hc' hq hkeys T'.heap (locs ++ L) ls (by rw [e1]; exact hP2) hD2 hS2 hl T' rfl X'
  refine ⟨t2, stp t2 ?_, b1⟩
  have e3 : (r.toList ++ st).map (ax_v ad) = (r.map (ax_v ad)).toList ++ st.map (ax_v ad) := by cases r <;> rfl
  rw [e3] at a1
  exact a1
theorem ax_goodIn (G : ax_G p s m args meth c Ts own cc nL D cid ad A) {y : MethodName} {bytes : ByteArray} {maxL : Nat} {ret : Option FieldType} (hcode : Cond.code y bytes maxL ret ∈ ax_big) : GoodIn Ts (Cond.code y bytes maxL ret :: ax_big) := by
  intro w hw
  have h1 : w ∈ ax_big := by
    rcases List.mem_cons.mp hw with e | e
    · rw [e]; exact hcode
    · exact e
  exact ⟨G.2.2.2.2.2.2.2.2.2.1 w h1, good_of_word (ax_good w h1)⟩
set_option maxHeartbeats 1000000 in
/-- a call of a method of an object -/
theorem ax_callV (G : ax_G p s m args meth c Ts own cc nL D cid ad A) {C : String} {y : MethodName} {bytes : ByteArray} {maxL : Nat} {ret : Option FieldType} {kr n i b q0 ci : Nat} {as' : List Value} {hc : ax_H} {Qa : Option Value → ax_H → Prop} {fs : List Value} {T : u_T} {N : Nat} {st0 : List Value}
    (ct : ax_CT l y bytes maxL ret kr (.ref b :: as') hc Qa) (d : decode cc pc = .ok (.invokevirtual i, 3)) (hst : st0 = as'.reverse ++ .ref b :: st) (hs : ax_sub hc h) (hn : va_nd (hc.map Prod.fst) = true)
    (hb : ax_f b h = some (q0, .inr (ci, fs))) (hcl : ax_cl[ci]? = some (C, T, N)) (hcode : Cond.code y bytes maxL ret ∈ ax_big) (hw : Cond.methodLink own i y ∈ ax_big ∧ Cond.instanceMethod y ∈ ax_big ∧ Cond.selects C y y ∈ ax_big ∧ Cond.initialized C ∈ ax_big)
    (hd : y.cls = C ∧ y.cls ≠ "java/lang/invoke/MethodHandle" ∧ y.cls ≠ "java/lang/invoke/VarHandle" ∧ (parseMethodDescriptor y.desc).map (fun d => d.parameters.length) = some n) (hlen : as'.length = n)
    (hR : kr + 1 ≤ R.frames ∧ 8 + (maxL + 11) + 40 * kr ≤ R.locals) (hwt : (st.map fun v => v.category).sum ≤ 8) (hf : cells ≤ R.cells ∧ slots ≤ R.slots)
    (kk : ∀ (r : Option Value) (hc' : ax_H), Qa r hc' → hc'.map Prod.fst = hc.map Prod.fst → ax_V p l e R s m args below meth c D cid ad A nL cells slots Q (pc + 3) lv (r.toList ++ st) (ax_m h hc')) : ax_V p l e R s m args below meth c D cid ad A nL cells slots Q pc lv st0 h := by
  intro H locs ls hP hD hS hl
  subst hst
  have hG := ax_goodIn G hcode
  obtain ⟨w1, w2, w3, w4⟩ := hw
  obtain ⟨hyc, hd1⟩ := hd
  subst hyc
  refine ax_goes (cid := cid) (ad := ad) (hc := hc) (Qa := Qa) (a := (.ref (ad b) :: as'.map (ax_v ad)).toArray) G hP hD hS hl hs ?_ kk
  refine va_runV (n := n) (As := as'.map (ax_v ad)) (b := ad b) (C := y.cls) (Ts := Ts) (own := own) (index := i) ⟨G.1, G.2.1, G.2.2.1, G.2.2.2.1, G.2.2.2.2.1⟩ (ct D cid ad H.size) ⟨callB_of n G.2.2.2.2.1 hG rfl rfl rfl (ax_say G w4) (ax_say G w1) hd1 hR, ax_say G w2, ax_say G w3⟩ ⟨ax_blind, va_recv G.2.2.2.2.2.1 hP hcl (ax_wget (ax_f_spec hb)), fun U hU hW => ⟨rfl, ax_pre G hP hD hS hs hn hU hW⟩⟩ rfl (by rw [List.length_map]; exact hlen) hl.1 (by simp [F0, List.map_reverse, ax_v]) (lv_room (by rw [List.map_map, show ((fun v : Value => v.category) ∘ ax_v ad) = fun v => v.category from funext (ax_vc ad)]; exact hwt)) d hf
set_option maxHeartbeats 1000000 in
/-- a call of a static method -/
theorem ax_callS (G : ax_G p s m args meth c Ts own cc nL D cid ad A) {y : MethodName} {bytes : ByteArray} {maxL : Nat} {ret : Option FieldType} {kr n i : Nat} {as : List Value} {hc : ax_H} {Qa : Option Value → ax_H → Prop} {st0 : List Value}
    (ct : ax_CT l y bytes maxL ret kr as hc Qa) (d : decode cc pc = .ok (.invokestatic i, 3)) (hst : st0 = as.reverse ++ st) (hs : ax_sub hc h) (hn : va_nd (hc.map Prod.fst) = true)
    (hcode : Cond.code y bytes maxL ret ∈ ax_big) (hw : Cond.methodLink own i y ∈ ax_big ∧ Cond.static y ∈ ax_big ∧ Cond.initialized y.cls ∈ ax_big)
    (hd : y.cls ≠ "java/lang/invoke/MethodHandle" ∧ y.cls ≠ "java/lang/invoke/VarHandle" ∧ (parseMethodDescriptor y.desc).map (fun d => d.parameters.length) = some n) (hlen : as.length = n)
    (hR : kr + 1 ≤ R.frames ∧ 8 + (maxL + 11) + 40 * kr ≤ R.locals) (hwt : (st.map fun v => v.category).sum ≤ 8) (hf : cells ≤ R.cells ∧ slots ≤ R.slots)
    (kk : ∀ (r : Option Value) (hc' : ax_H), Qa r hc' → hc'.map Prod.fst = hc.map Prod.fst → ax_V p l e R s m args below meth c D cid ad A nL cells slots Q (pc + 3) lv (r.toList ++ st) (ax_m h hc')) : ax_V p l e R s m args below meth c D cid ad A nL cells slots Q pc lv st0 h := by
  intro H locs ls hP hD hS hl
  subst hst
  have hG := ax_goodIn G hcode
  obtain ⟨w1, w2, w3⟩ := hw
  refine ax_goes (cid := cid) (ad := ad) (hc := hc) (Qa := Qa) (a := (as.map (ax_v ad)).toArray) G hP hD hS hl hs ?_ kk
  refine va_runS (n := n) (As := as.map (ax_v ad)) (Ts := Ts) (own := own) (index := i) ⟨G.1, G.2.1, G.2.2.1, G.2.2.2.1, G.2.2.2.2.1⟩ (ct D cid ad H.size) ⟨callB_of n G.2.2.2.2.1 hG rfl rfl rfl (ax_say G w3) (ax_say G w1) hd hR, ax_say G w2⟩ ⟨ax_blind, fun U hU hW => ⟨rfl, ax_pre G hP hD hS hs hn hU hW⟩⟩ rfl (by rw [List.length_map]; exact hlen) hl.1 (by simp [F0, List.map_reverse]) (lv_room (by rw [List.map_map, show ((fun v : Value => v.category) ∘ ax_v ad) = fun v => v.category from funext (ax_vc ad)]; exact hwt)) d hf
variable {Qc : Array Value → State → Outcome → State → Prop} {Qa : Option Value → ax_H → Prop} {h0 : ax_H}
theorem ax_iret (G : ax_G p s m args meth c Ts own cc nL D cid ad A) (hr : meth.sig.returnType = some .int) (E : ∀ (r : Option Value) (h' : ax_H) (t : State) (H : Heap) (locs : List Loc), Qa r h' → h'.map Prod.fst = h0.map Prod.fst → va_P D ax_cl (ax_w cid ad h') H → va_D A (ax_w cid ad h') → va_S A s.heap H locs → t.heap = H → Qc args s (.returned (r.map (ax_v ad))) t)
    {v : Int32} (d : decode cc pc = .ok (.ireturn, 1)) (hk : h.map Prod.fst = h0.map Prod.fst) (hq : Qa (some (.int v)) h) : ax_V p l e R s m args below meth c D cid ad A nL cells slots (MQ below Qc args s cells slots A) pc lv [.int v] h :=
  fun H locs ls hP hD hS hl => W.iret G.1 G.2.1 hr (fun t ht _ => E (some (.int v)) h t H locs hq hk hP hD hS ht) hS.2.2 d G.2.2.2.2.2.2.2.1
theorem ax_zret (G : ax_G p s m args meth c Ts own cc nL D cid ad A) {ty : FieldType} (hr : meth.sig.returnType = some ty) (E : ∀ (r : Option Value) (h' : ax_H) (t : State) (H : Heap) (locs : List Loc), Qa r h' → h'.map Prod.fst = h0.map Prod.fst → va_P D ax_cl (ax_w cid ad h') H → va_D A (ax_w cid ad h') → va_S A s.heap H locs → t.heap = H → Qc args s (.returned (r.map (ax_v ad))) t)
    {v : Int32} (hnw : narrow ty (.int v) = .int v) (d : decode cc pc = .ok (.ireturn, 1)) (hk : h.map Prod.fst = h0.map Prod.fst) (hq : Qa (some (.int v)) h) : ax_V p l e R s m args below meth c D cid ad A nL cells slots (MQ below Qc args s cells slots A) pc lv [.int v] h :=
  fun H locs ls hP hD hS hl => W.zret G.1 G.2.1 hr hnw (fun t ht _ => E (some (.int v)) h t H locs hq hk hP hD hS ht) hS.2.2 d G.2.2.2.2.2.2.2.1
theorem ax_lret (G : ax_G p s m args meth c Ts own cc nL D cid ad A) (hr : meth.sig.returnType = some .long) (E : ∀ (r : Option Value) (h' : ax_H) (t : State) (H : Heap) (locs : List Loc), Qa r h' → h'.map Prod.fst = h0.map Prod.fst → va_P D ax_cl (ax_w cid ad h') H → va_D A (ax_w cid ad h') → va_S A s.heap H locs → t.heap = H → Qc args s (.returned (r.map (ax_v ad))) t)
    {v : Int64} (d : decode cc pc = .ok (.lreturn, 1)) (hk : h.map Prod.fst = h0.map Prod.fst) (hq : Qa (some (.long v)) h) : ax_V p l e R s m args below meth c D cid ad A nL cells slots (MQ below Qc args s cells slots A) pc lv [.long v] h :=
  fun H locs ls hP hD hS hl => W.lret G.1 G.2.1 hr (fun t ht _ => E (some (.long v)) h t H locs hq hk hP hD hS ht) hS.2.2 d G.2.2.2.2.2.2.2.1
theorem ax_vret (G : ax_G p s m args meth c Ts own cc nL D cid ad A) (hr : meth.sig.returnType = none) (E : ∀ (r : Option Value) (h' : ax_H) (t : State) (H : Heap) (locs : List Loc), Qa r h' → h'.map Prod.fst = h0.map Prod.fst → va_P D ax_cl (ax_w cid ad h') H → va_D A (ax_w cid ad h') → va_S A s.heap H locs → t.heap = H → Qc args s (.returned (r.map (ax_v ad))) t)
    (d : decode cc pc = .ok (.return_, 1)) (hk : h.map Prod.fst = h0.map Prod.fst) (hq : Qa none h) : ax_V p l e R s m args below meth c D cid ad A nL cells slots (MQ below Qc args s cells slots A) pc lv [] h :=
  fun H locs ls hP hD hS hl => W.vret G.1 G.2.1 hr (fun t ht _ => E none h t H locs hq hk hP hD hS ht) hS.2.2 d G.2.2.2.2.2.2.2.1
theorem ax_eqV {lv' : List (Nat × Value)} {st' : List Value} {h' : ax_H} (k : ax_V p l e R s m args below meth c D cid ad A nL cells slots Q pc lv' st' h') (e1 : lv = lv') (e2 : st = st') (e3 : h = h') : ax_V p l e R s m args below meth c D cid ad A nL cells slots Q pc lv st h := by
  subst e1; subst e2; subst e3; exact k
end AXC
end
